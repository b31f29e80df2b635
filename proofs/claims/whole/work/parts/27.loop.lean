/-! THE LOOP -/
section ZLP
variable {K : zK} {p : Program} {l : Launch} {e : Env} {R : Room} {s : State} {m : MethodId} {args : Array Value} {below : List Frame} {meth : Method} {c : Code} {A : Nat → Prop} {Q : State → Prop} {k n : Nat} {bs bc br : zB} {lv : List (Nat × Value)} {st : List Value} {pc : Nat}
theorem z_to (isC isR : List Nat) (hs : zSp bs bc br isC isR) (kk : zW K p l e R s m args below meth c A Q k n (bc ++ [br.flatten]) lv st pc) : zW K p l e R s m args below meth c A Q k n bs lv st pc := by
  refine z_perm (hs.pm.trans (List.Perm.of_eq ?_)) kk
  rw [List.flatten_append, List.flatten_append, List.flatten_cons, List.flatten_nil, List.append_nil]
theorem z_fro (isC isR : List Nat) (hs : zSp bs bc br isC isR) (kk : zW K p l e R s m args below meth c A Q k n bs lv st pc) : zW K p l e R s m args below meth c A Q k n (bc ++ [br.flatten]) lv st pc := by
  refine z_perm (List.Perm.trans (List.Perm.of_eq ?_) hs.pm.symm) kk
  rw [List.flatten_append, List.flatten_append, List.flatten_cons, List.flatten_nil, List.append_nil]
end ZLP
theorem r_31 (x : Int32) : ∃ o, o < 32 ∧ x &&& 31 = nI o := by
  refine ⟨(x &&& 31).toBitVec.toNat, ?_, ?_⟩
  · show (x.toBitVec &&& (31 : Int32).toBitVec).toNat < 32
    rw [BitVec.toNat_and]
    exact Nat.lt_of_le_of_lt Nat.and_le_right (by decide)
  · apply Int32.toBitVec_inj.mp
    show _ = BitVec.ofNat 32 _
    rw [BitVec.ofNat_toNat, BitVec.setWidth_eq]
theorem r_end {L ii : Nat} (hL : L ≤ 2048) (hi : ii ≤ 4096) : nI L - 4 < nI ii ↔ L < ii + 4 := by
  by_cases h : 4 ≤ L
  · obtain ⟨m, rfl⟩ : ∃ m, L = m + 4 := ⟨L - 4, by omega⟩
    have e : nI (m + 4) - 4 = nI m := by
      rw [← nI_add, show nI 4 = 4 from by decide, Int32.add_sub_cancel]
    rw [e, nI_ltI (by omega) (by omega)]
    omega
  · have e : (nI L - 4).toInt < 0 := by
      rcases (show L = 0 ∨ L = 1 ∨ L = 2 ∨ L = 3 by omega) with rfl | rfl | rfl | rfl <;> decide
    rw [Int32.lt_iff_toInt_lt, nI_toInt (by omega)]
    omega
theorem r_hi {L ii k : Nat} (hL : L ≤ 2048) (h : ii + 4 ≤ L) (hk : k < 4) : vp_in (nI ii + nI k) L := by
  rw [nI_add]
  exact z_nIr (by omega) (by omega)
/-- all blocks of the law -/
def zFu (K : zK) (ax sa ao : Nat) (az ak tk tc am : Nat → Nat) (n : Nat) (f : Nat → Option Nat) (so : Nat → Nat) (sc : Nat → Nat → Nat) (X : Nat → Int32) (Z : Nat → Nat → Int32) (W : Nat → Int32) (D : Nat → Nat → Int32) (Cs : Nat → Nat → Nat → Int32) (F O Ft Ot : Nat → Int32) (Tc : Nat → Nat → Int32) (I : Nat → Int32) (R : Nat → Nat → Int32) (g : Nat → Int64) : zB :=
  [zXo ax (az 0) sa (ak 0) (tk 0) (tc 0) X, zZo K az Z W, zSa K sa f, zSO n so sc D, zSC K n sc Cs, zCo K ak F O, zCo K tk Ft Ot, zCa K tc Tc, zMo K am I R, zOu K ao g]
/-- the same, one site's cache by itself -/
def zFi (K : zK) (ax sa ao : Nat) (az ak tk tc am : Nat → Nat) (n : Nat) (f : Nat → Option Nat) (so : Nat → Nat) (sc : Nat → Nat → Nat) (X : Nat → Int32) (Z : Nat → Nat → Int32) (W : Nat → Int32) (D : Nat → Nat → Int32) (Cs : Nat → Nat → Nat → Int32) (i : Nat) (C : Nat → Nat → Int32) (F O Ft Ot : Nat → Int32) (Tc : Nat → Nat → Int32) (I : Nat → Int32) (R : Nat → Nat → Int32) (g : Nat → Int64) : zB :=
  [zXo ax (az 0) sa (ak 0) (tk 0) (tc 0) X, zZo K az Z W, zSa K sa f, zSO n so sc D, zCa K (sc i) C, zCo K ak F O, zCo K tk Ft Ot, zCa K tc Tc, zMo K am I R, zOu K ao g, zSX K n sc Cs i]
theorem zFi_p {α : Type} (a0 a1 a2 a3 a5 a6 a7 a8 a9 c x S : List α) (h : S.Perm (c ++ x)) : ([a0, a1, a2, a3, S, a5, a6, a7, a8, a9] : List (List α)).flatten.Perm ([a0, a1, a2, a3, c, a5, a6, a7, a8, a9, x] : List (List α)).flatten := by
  simp only [List.flatten_cons, List.flatten_nil, List.append_nil]
  refine List.Perm.append_left _ (List.Perm.append_left _ (List.Perm.append_left _ (List.Perm.append_left _ ?_)))
  refine (h.append_right _).trans ?_
  rw [List.append_assoc]
  refine List.Perm.append_left _ ?_
  refine List.perm_append_comm.trans ?_
  simp only [List.append_assoc]
  exact List.Perm.refl _
theorem zFi_of {K : zK} {ax sa ao : Nat} {az ak tk tc am : Nat → Nat} {n i : Nat} {f : Nat → Option Nat} {so : Nat → Nat} {sc : Nat → Nat → Nat} {X : Nat → Int32} {Z : Nat → Nat → Int32} {W : Nat → Int32} {D : Nat → Nat → Int32} {Cs : Nat → Nat → Nat → Int32} {F O Ft Ot : Nat → Int32} {Tc : Nat → Nat → Int32} {I : Nat → Int32} {R : Nat → Nat → Int32} {g : Nat → Int64} (hi : i < n) :
    (zFu K ax sa ao az ak tk tc am n f so sc X Z W D Cs F O Ft Ot Tc I R g).flatten.Perm (zFi K ax sa ao az ak tk tc am n f so sc X Z W D Cs i (Cs i) F O Ft Ot Tc I R g).flatten := zFi_p _ _ _ _ _ _ _ _ _ _ _ _ (zSC_split hi)
theorem zFi_to {K : zK} {ax sa ao : Nat} {az ak tk tc am : Nat → Nat} {n i : Nat} {f : Nat → Option Nat} {so : Nat → Nat} {sc : Nat → Nat → Nat} {X : Nat → Int32} {Z : Nat → Nat → Int32} {W : Nat → Int32} {D : Nat → Nat → Int32} {Cs : Nat → Nat → Nat → Int32} {C : Nat → Nat → Int32} {F O Ft Ot : Nat → Int32} {Tc : Nat → Nat → Int32} {I : Nat → Int32} {R : Nat → Nat → Int32} {g : Nat → Int64} (hi : i < n) :
    (zFi K ax sa ao az ak tk tc am n f so sc X Z W D Cs i C F O Ft Ot Tc I R g).flatten.Perm (zFu K ax sa ao az ak tk tc am n f so sc X Z W D (va_up Cs i C) F O Ft Ot Tc I R g).flatten := (zFi_p _ _ _ _ _ _ _ _ _ _ _ _ (zSC_join hi)).symm
theorem z_nrLt {n : Nat} {D : Nat → Nat → Int32} {x1 : Int32} : ∀ (m a : Nat) (g : Option Nat), (g = none ∨ ∃ b, b < n ∧ g = some b) → (fX4_nr n D x1 m a g = none ∨ ∃ b, b < n ∧ fX4_nr n D x1 m a g = some b)
  | 0, a, g, h => h
  | m + 1, a, g, h => by
    by_cases q : a < n
    · by_cases z : D a 3 = 0
      · rw [r_nrD q z]
        exact z_nrLt m (a + 1) g h
      · rcases h with rfl | ⟨b, hb, rfl⟩
        · rw [r_nrN q z]
          exact z_nrLt m (a + 1) _ (Or.inr ⟨a, q, rfl⟩)
        · rw [r_nrS q z]
          split
          · exact z_nrLt m (a + 1) _ (Or.inr ⟨b, hb, rfl⟩)
          · exact z_nrLt m (a + 1) _ (Or.inr ⟨a, q, rfl⟩)
    · rw [show fX4_nr n D x1 (m + 1) a g = fX4_nr n D x1 m (a + 1) g from if_neg q]
      exact z_nrLt m (a + 1) g h
theorem z_nearLt (n : Nat) (D : Nat → Nat → Int32) (x1 : Int32) : fX4_near n D x1 = none ∨ ∃ i, i < n ∧ fX4_near n D x1 = some i := z_nrLt 4 0 none (Or.inl rfl)

set_option maxHeartbeats 8000000 in
set_option maxRecDepth 100000 in
theorem law_op0 (l : Launch) (hl : l.stackTraces = false) {K : zK} {p : Program} {e : Env} {s : State} {m : MethodId} {below : List Frame} {meth : Method} {c : Code} {A : Nat → Prop} {Q : State → Prop} {ret9 : Option FieldType} {nm9 : String} {tb9 : List ExceptionTableEntry} {args : Array Value} {b L ii k9 n9 : Nat} {xs : Nat → Int32} (B : zF K p l s m args meth c A cL_law 7 RL nm9 wsL_law ret9 tb9) (hX : va_X b L xs s s.heap) (hbl : b < s.heap.size) (hbA : ¬ A b) (hL : L ≤ 2048) (h4L : ii + 4 ≤ L) (hk9 : k9 + 16 ≤ 601024) (hn9 : n9 + 512 ≤ 7293034) {ax sa ao : Nat} {az ak tk tc am : Nat → Nat}
    (next : ∀ (n : Nat) (f : Nat → Option Nat) (so : Nat → Nat) (sc : Nat → Nat → Nat) (X : Nat → Int32) (Z : Nat → Nat → Int32) (W : Nat → Int32) (D : Nat → Nat → Int32) (Cs : Nat → Nat → Nat → Int32) (F : Nat → Int32) (O : Nat → Int32) (Ft : Nat → Int32) (Ot : Nat → Int32) (Tc : Nat → Nat → Int32) (I : Nat → Int32) (R : Nat → Nat → Int32) (g : Nat → Int64), rR n X Z W D Cs O I R → (∀ a, a < n → f a = some (so a)) → (∀ a, n ≤ a → a < 4 → f a = none) → zW K p l e zR s m args below meth c A Q (k9 + 16) (n9 + 512) (zFu K ax sa ao az ak tk tc am n f so sc X Z W D Cs F O Ft Ot Tc I R g) [(0, .ref b), (1, .ref ax), (2, .ref (am 0)), (3, .ref ao), (4, .int (nI ii))] [] 1428) : ∀ (n : Nat) (f : Nat → Option Nat) (so : Nat → Nat) (sc : Nat → Nat → Nat) (X : Nat → Int32) (Z : Nat → Nat → Int32) (W : Nat → Int32) (D : Nat → Nat → Int32) (Cs : Nat → Nat → Nat → Int32) (F : Nat → Int32) (O : Nat → Int32) (Ft : Nat → Int32) (Ot : Nat → Int32) (Tc : Nat → Nat → Int32) (I : Nat → Int32) (R : Nat → Nat → Int32) (g : Nat → Int64), rR n X Z W D Cs O I R → (∀ a, a < n → f a = some (so a)) → (∀ a, n ≤ a → a < 4 → f a = none) → zW K p l e zR s m args below meth c A Q k9 n9 (zFu K ax sa ao az ak tk tc am n f so sc X Z W D Cs F O Ft Ot Tc I R g) [(0, .ref b), (1, .ref ax), (2, .ref (am 0)), (3, .ref ao), (4, .int (nI ii))] [.int (nI 0)] 39 := by
  intro n f so sc X Z W D Cs F O Ft Ot Tc I R g hS hf1 hf2
  have hn4 := hS.1.2.1
  have h5 : ¬ (I 5) < 0 := by rw [hS.1.1]; exact nI_pos (by omega)
  have h6 : (I 5).toNatClampNeg ≤ 4 := by rw [hS.1.1, nI_clamp (by omega)]; exact hn4
  have hZ := hS.2.1.zw
  have hC := hS.2.2.2.1.1
  have h4 := hS.2.1.2.2.2
  have hW4 : (W 4) = 0 ∨ (W 4) = 1 := by rw [hS.2.1.2.2.1]; exact h4
  have h16 := hS.2.2.1.2.2.2.2.2.2.2.2.2.2.2
  have hO5 : (O 5) = 0 ∨ (O 5) = 1 := by rw [hS.2.2.1.2.2.2.2.2.2.2.2.2.2.1]; exact h16
  have hX2 := hS.2.2.1.1
  have hon := hS.1.2.2.2
  have hD3 : ∀ i, i < n → (D i 3) = 0 ∨ (D i 3) = 1 := fun i hi => by rw [(hS.1.2.2.1 i hi).2.2.1]; exact hon i
  have i01 : (0 : Int32) = 0 ∨ (0 : Int32) = 1 := Or.inl rfl
  have i11 : (1 : Int32) = 0 ∨ (1 : Int32) = 1 := Or.inr rfl
  obtain ⟨x1, hv1⟩ : ∃ x1, xs (nI ii + 1).toNatClampNeg = x1 := ⟨_, rfl⟩
  obtain ⟨x2, hv2⟩ : ∃ x2, xs (nI ii + 2).toNatClampNeg = x2 := ⟨_, rfl⟩
  obtain ⟨x3, hv3⟩ : ∃ x3, xs (nI ii + 3).toNatClampNeg = x3 := ⟨_, rfl⟩
  have site : (∃ i, i < n ∧ x1 = nI i) ∨ (∀ i, i < n → x1 ≠ nI i) := by
    by_cases h : ∃ i, i < n ∧ x1 = nI i
    · exact Or.inl h
    · exact Or.inr fun i hi q => h ⟨i, hi, q⟩
  have near : fX4_near n D x1 = none ∨ ∃ i, i < n ∧ fX4_near n D x1 = some i := z_nearLt n D x1
  have miss : (∀ i, i < n → x1 ≠ nI i) → x1 < 4 → ¬ x1 < 0 → f x1.toNatClampNeg = none := by
    intro hm q1 q2
    obtain ⟨j, hj, rfl⟩ := nI_of q2
    have hj4 : j < 4 := (nI_ltI (b := 4) hj (by decide)).mp q1
    rw [nI_clamp hj]
    exact hf2 j (Nat.le_of_not_lt fun q => hm j q rfl) hj4
  · refine z_tsI B 164 dL_law_39 (by decide) (by decide) rfl rfl ?_
    refine z_to (bc := [zXo ax (az 0) sa (ak 0) (tk 0) (tc 0) X, zZo K az Z W, zMo K am I R]) (br := [zSa K sa f, zSO n so sc D, zSC K n sc Cs, zCo K ak F O, zCo K tk Ft Ot, zCa K tc Tc, zOu K ao g]) [0, 1, 8] [2, 3, 4, 5, 6, 7, 9] (zsp rfl rfl rfl) ?_
    refine aL_setAddress l hl ao K ax az sa (ak 0) (tk 0) (tc 0) X Z W x1 x2 x3 am I R ([zSa K sa f, zSO n so sc D, zSC K n sc Cs, zCo K ak F O, zCo K tk Ft Ot, zCa K tc Tc, zOu K ao g] : zB).flatten ⟨(q_setAddress hS).1, trivial⟩ B hX hbl hbA (r_hi hL h4L (k := 1) (by decide)) hv1 (r_hi hL h4L (k := 2) (by decide)) hv2 (r_hi hL h4L (k := 3) (by decide)) hv3 (by omega) (by omega) ?_
    refine z_fro (bs := zFu K ax sa ao az ak tk tc am n f so sc X ((fL_setAddress X Z W x1 x2 x3).2) W D Cs F O Ft Ot Tc ((fX5_setAddress I R x1 x2 x3).1) ((fX5_setAddress I R x1 x2 x3).2) g) (bc := [zXo ax (az 0) sa (ak 0) (tk 0) (tc 0) X, zZo K az ((fL_setAddress X Z W x1 x2 x3).2) W, zMo K am ((fX5_setAddress I R x1 x2 x3).1) ((fX5_setAddress I R x1 x2 x3).2)]) (br := [zSa K sa f, zSO n so sc D, zSC K n sc Cs, zCo K ak F O, zCo K tk Ft Ot, zCa K tc Tc, zOu K ao g]) [0, 1, 8] [2, 3, 4, 5, 6, 7, 9] (zsp rfl rfl rfl) ?_
    exact next n f so sc X ((fL_setAddress X Z W x1 x2 x3).2) W D Cs F O Ft Ot Tc ((fX5_setAddress I R x1 x2 x3).1) ((fX5_setAddress I R x1 x2 x3).2) g (q_setAddress hS).2 hf1 hf2
set_option maxHeartbeats 8000000 in
set_option maxRecDepth 100000 in
theorem law_op1 (l : Launch) (hl : l.stackTraces = false) {K : zK} {p : Program} {e : Env} {s : State} {m : MethodId} {below : List Frame} {meth : Method} {c : Code} {A : Nat → Prop} {Q : State → Prop} {ret9 : Option FieldType} {nm9 : String} {tb9 : List ExceptionTableEntry} {args : Array Value} {b L ii k9 n9 : Nat} {xs : Nat → Int32} (B : zF K p l s m args meth c A cL_law 7 RL nm9 wsL_law ret9 tb9) (hX : va_X b L xs s s.heap) (hbl : b < s.heap.size) (hbA : ¬ A b) (hL : L ≤ 2048) (h4L : ii + 4 ≤ L) (hk9 : k9 + 16 ≤ 601024) (hn9 : n9 + 512 ≤ 7293034) {ax sa ao : Nat} {az ak tk tc am : Nat → Nat}
    (next : ∀ (n : Nat) (f : Nat → Option Nat) (so : Nat → Nat) (sc : Nat → Nat → Nat) (X : Nat → Int32) (Z : Nat → Nat → Int32) (W : Nat → Int32) (D : Nat → Nat → Int32) (Cs : Nat → Nat → Nat → Int32) (F : Nat → Int32) (O : Nat → Int32) (Ft : Nat → Int32) (Ot : Nat → Int32) (Tc : Nat → Nat → Int32) (I : Nat → Int32) (R : Nat → Nat → Int32) (g : Nat → Int64), rR n X Z W D Cs O I R → (∀ a, a < n → f a = some (so a)) → (∀ a, n ≤ a → a < 4 → f a = none) → zW K p l e zR s m args below meth c A Q (k9 + 16) (n9 + 512) (zFu K ax sa ao az ak tk tc am n f so sc X Z W D Cs F O Ft Ot Tc I R g) [(0, .ref b), (1, .ref ax), (2, .ref (am 0)), (3, .ref ao), (4, .int (nI ii))] [] 1428) : ∀ (n : Nat) (f : Nat → Option Nat) (so : Nat → Nat) (sc : Nat → Nat → Nat) (X : Nat → Int32) (Z : Nat → Nat → Int32) (W : Nat → Int32) (D : Nat → Nat → Int32) (Cs : Nat → Nat → Nat → Int32) (F : Nat → Int32) (O : Nat → Int32) (Ft : Nat → Int32) (Ot : Nat → Int32) (Tc : Nat → Nat → Int32) (I : Nat → Int32) (R : Nat → Nat → Int32) (g : Nat → Int64), rR n X Z W D Cs O I R → (∀ a, a < n → f a = some (so a)) → (∀ a, n ≤ a → a < 4 → f a = none) → zW K p l e zR s m args below meth c A Q k9 n9 (zFu K ax sa ao az ak tk tc am n f so sc X Z W D Cs F O Ft Ot Tc I R g) [(0, .ref b), (1, .ref ax), (2, .ref (am 0)), (3, .ref ao), (4, .int (nI ii))] [.int (nI 1)] 39 := by
  intro n f so sc X Z W D Cs F O Ft Ot Tc I R g hS hf1 hf2
  have hn4 := hS.1.2.1
  have h5 : ¬ (I 5) < 0 := by rw [hS.1.1]; exact nI_pos (by omega)
  have h6 : (I 5).toNatClampNeg ≤ 4 := by rw [hS.1.1, nI_clamp (by omega)]; exact hn4
  have hZ := hS.2.1.zw
  have hC := hS.2.2.2.1.1
  have h4 := hS.2.1.2.2.2
  have hW4 : (W 4) = 0 ∨ (W 4) = 1 := by rw [hS.2.1.2.2.1]; exact h4
  have h16 := hS.2.2.1.2.2.2.2.2.2.2.2.2.2.2
  have hO5 : (O 5) = 0 ∨ (O 5) = 1 := by rw [hS.2.2.1.2.2.2.2.2.2.2.2.2.2.1]; exact h16
  have hX2 := hS.2.2.1.1
  have hon := hS.1.2.2.2
  have hD3 : ∀ i, i < n → (D i 3) = 0 ∨ (D i 3) = 1 := fun i hi => by rw [(hS.1.2.2.1 i hi).2.2.1]; exact hon i
  have i01 : (0 : Int32) = 0 ∨ (0 : Int32) = 1 := Or.inl rfl
  have i11 : (1 : Int32) = 0 ∨ (1 : Int32) = 1 := Or.inr rfl
  obtain ⟨x1, hv1⟩ : ∃ x1, xs (nI ii + 1).toNatClampNeg = x1 := ⟨_, rfl⟩
  obtain ⟨x2, hv2⟩ : ∃ x2, xs (nI ii + 2).toNatClampNeg = x2 := ⟨_, rfl⟩
  obtain ⟨x3, hv3⟩ : ∃ x3, xs (nI ii + 3).toNatClampNeg = x3 := ⟨_, rfl⟩
  have site : (∃ i, i < n ∧ x1 = nI i) ∨ (∀ i, i < n → x1 ≠ nI i) := by
    by_cases h : ∃ i, i < n ∧ x1 = nI i
    · exact Or.inl h
    · exact Or.inr fun i hi q => h ⟨i, hi, q⟩
  have near : fX4_near n D x1 = none ∨ ∃ i, i < n ∧ fX4_near n D x1 = some i := z_nearLt n D x1
  have miss : (∀ i, i < n → x1 ≠ nI i) → x1 < 4 → ¬ x1 < 0 → f x1.toNatClampNeg = none := by
    intro hm q1 q2
    obtain ⟨j, hj, rfl⟩ := nI_of q2
    have hj4 : j < 4 := (nI_ltI (b := 4) hj (by decide)).mp q1
    rw [nI_clamp hj]
    exact hf2 j (Nat.le_of_not_lt fun q => hm j q rfl) hj4
  · refine z_tsI B 224 dL_law_39 (by decide) (by decide) rfl rfl ?_
    refine z_to (bc := [zXo ax (az 0) sa (ak 0) (tk 0) (tc 0) X, zZo K az Z W, zMo K am I R]) (br := [zSa K sa f, zSO n so sc D, zSC K n sc Cs, zCo K ak F O, zCo K tk Ft Ot, zCa K tc Tc, zOu K ao g]) [0, 1, 8] [2, 3, 4, 5, 6, 7, 9] (zsp rfl rfl rfl) ?_
    refine aL_setAlias l hl ao K ax az sa (ak 0) (tk 0) (tc 0) X Z W x1 x2 x3 am I R ([zSa K sa f, zSO n so sc D, zSC K n sc Cs, zCo K ak F O, zCo K tk Ft Ot, zCa K tc Tc, zOu K ao g] : zB).flatten ⟨(q_setAlias hS).1, trivial⟩ B hX hbl hbA (r_hi hL h4L (k := 1) (by decide)) hv1 (r_hi hL h4L (k := 2) (by decide)) hv2 (r_hi hL h4L (k := 3) (by decide)) hv3 (by omega) (by omega) ?_
    refine z_fro (bs := zFu K ax sa ao az ak tk tc am n f so sc X ((fL_setAlias X Z W x1 x2 x3).2) W D Cs F O Ft Ot Tc ((fX5_setAlias I R x1 x2 x3).1) ((fX5_setAlias I R x1 x2 x3).2) g) (bc := [zXo ax (az 0) sa (ak 0) (tk 0) (tc 0) X, zZo K az ((fL_setAlias X Z W x1 x2 x3).2) W, zMo K am ((fX5_setAlias I R x1 x2 x3).1) ((fX5_setAlias I R x1 x2 x3).2)]) (br := [zSa K sa f, zSO n so sc D, zSC K n sc Cs, zCo K ak F O, zCo K tk Ft Ot, zCa K tc Tc, zOu K ao g]) [0, 1, 8] [2, 3, 4, 5, 6, 7, 9] (zsp rfl rfl rfl) ?_
    exact next n f so sc X ((fL_setAlias X Z W x1 x2 x3).2) W D Cs F O Ft Ot Tc ((fX5_setAlias I R x1 x2 x3).1) ((fX5_setAlias I R x1 x2 x3).2) g (q_setAlias hS).2 hf1 hf2
set_option maxHeartbeats 8000000 in
set_option maxRecDepth 100000 in
theorem law_op2 (l : Launch) (hl : l.stackTraces = false) {K : zK} {p : Program} {e : Env} {s : State} {m : MethodId} {below : List Frame} {meth : Method} {c : Code} {A : Nat → Prop} {Q : State → Prop} {ret9 : Option FieldType} {nm9 : String} {tb9 : List ExceptionTableEntry} {args : Array Value} {b L ii k9 n9 : Nat} {xs : Nat → Int32} (B : zF K p l s m args meth c A cL_law 7 RL nm9 wsL_law ret9 tb9) (hX : va_X b L xs s s.heap) (hbl : b < s.heap.size) (hbA : ¬ A b) (hL : L ≤ 2048) (h4L : ii + 4 ≤ L) (hk9 : k9 + 16 ≤ 601024) (hn9 : n9 + 512 ≤ 7293034) {ax sa ao : Nat} {az ak tk tc am : Nat → Nat}
    (next : ∀ (n : Nat) (f : Nat → Option Nat) (so : Nat → Nat) (sc : Nat → Nat → Nat) (X : Nat → Int32) (Z : Nat → Nat → Int32) (W : Nat → Int32) (D : Nat → Nat → Int32) (Cs : Nat → Nat → Nat → Int32) (F : Nat → Int32) (O : Nat → Int32) (Ft : Nat → Int32) (Ot : Nat → Int32) (Tc : Nat → Nat → Int32) (I : Nat → Int32) (R : Nat → Nat → Int32) (g : Nat → Int64), rR n X Z W D Cs O I R → (∀ a, a < n → f a = some (so a)) → (∀ a, n ≤ a → a < 4 → f a = none) → zW K p l e zR s m args below meth c A Q (k9 + 16) (n9 + 512) (zFu K ax sa ao az ak tk tc am n f so sc X Z W D Cs F O Ft Ot Tc I R g) [(0, .ref b), (1, .ref ax), (2, .ref (am 0)), (3, .ref ao), (4, .int (nI ii))] [] 1428) : ∀ (n : Nat) (f : Nat → Option Nat) (so : Nat → Nat) (sc : Nat → Nat → Nat) (X : Nat → Int32) (Z : Nat → Nat → Int32) (W : Nat → Int32) (D : Nat → Nat → Int32) (Cs : Nat → Nat → Nat → Int32) (F : Nat → Int32) (O : Nat → Int32) (Ft : Nat → Int32) (Ot : Nat → Int32) (Tc : Nat → Nat → Int32) (I : Nat → Int32) (R : Nat → Nat → Int32) (g : Nat → Int64), rR n X Z W D Cs O I R → (∀ a, a < n → f a = some (so a)) → (∀ a, n ≤ a → a < 4 → f a = none) → zW K p l e zR s m args below meth c A Q k9 n9 (zFu K ax sa ao az ak tk tc am n f so sc X Z W D Cs F O Ft Ot Tc I R g) [(0, .ref b), (1, .ref ax), (2, .ref (am 0)), (3, .ref ao), (4, .int (nI ii))] [.int (nI 2)] 39 := by
  intro n f so sc X Z W D Cs F O Ft Ot Tc I R g hS hf1 hf2
  have hn4 := hS.1.2.1
  have h5 : ¬ (I 5) < 0 := by rw [hS.1.1]; exact nI_pos (by omega)
  have h6 : (I 5).toNatClampNeg ≤ 4 := by rw [hS.1.1, nI_clamp (by omega)]; exact hn4
  have hZ := hS.2.1.zw
  have hC := hS.2.2.2.1.1
  have h4 := hS.2.1.2.2.2
  have hW4 : (W 4) = 0 ∨ (W 4) = 1 := by rw [hS.2.1.2.2.1]; exact h4
  have h16 := hS.2.2.1.2.2.2.2.2.2.2.2.2.2.2
  have hO5 : (O 5) = 0 ∨ (O 5) = 1 := by rw [hS.2.2.1.2.2.2.2.2.2.2.2.2.2.1]; exact h16
  have hX2 := hS.2.2.1.1
  have hon := hS.1.2.2.2
  have hD3 : ∀ i, i < n → (D i 3) = 0 ∨ (D i 3) = 1 := fun i hi => by rw [(hS.1.2.2.1 i hi).2.2.1]; exact hon i
  have i01 : (0 : Int32) = 0 ∨ (0 : Int32) = 1 := Or.inl rfl
  have i11 : (1 : Int32) = 0 ∨ (1 : Int32) = 1 := Or.inr rfl
  obtain ⟨x1, hv1⟩ : ∃ x1, xs (nI ii + 1).toNatClampNeg = x1 := ⟨_, rfl⟩
  obtain ⟨x2, hv2⟩ : ∃ x2, xs (nI ii + 2).toNatClampNeg = x2 := ⟨_, rfl⟩
  obtain ⟨x3, hv3⟩ : ∃ x3, xs (nI ii + 3).toNatClampNeg = x3 := ⟨_, rfl⟩
  have site : (∃ i, i < n ∧ x1 = nI i) ∨ (∀ i, i < n → x1 ≠ nI i) := by
    by_cases h : ∃ i, i < n ∧ x1 = nI i
    · exact Or.inl h
    · exact Or.inr fun i hi q => h ⟨i, hi, q⟩
  have near : fX4_near n D x1 = none ∨ ∃ i, i < n ∧ fX4_near n D x1 = some i := z_nearLt n D x1
  have miss : (∀ i, i < n → x1 ≠ nI i) → x1 < 4 → ¬ x1 < 0 → f x1.toNatClampNeg = none := by
    intro hm q1 q2
    obtain ⟨j, hj, rfl⟩ := nI_of q2
    have hj4 : j < 4 := (nI_ltI (b := 4) hj (by decide)).mp q1
    rw [nI_clamp hj]
    exact hf2 j (Nat.le_of_not_lt fun q => hm j q rfl) hj4
  · refine z_tsI B 284 dL_law_39 (by decide) (by decide) rfl rfl ?_
    refine z_to (bc := [zXo ax (az 0) sa (ak 0) (tk 0) (tc 0) X, zZo K az Z W, zOu K ao g, zMo K am I R]) (br := [zSa K sa f, zSO n so sc D, zSC K n sc Cs, zCo K ak F O, zCo K tk Ft Ot, zCa K tc Tc]) [0, 1, 9, 8] [2, 3, 4, 5, 6, 7] (zsp rfl rfl rfl) ?_
    refine aL_remove l hl K ax az sa (ak 0) (tk 0) (tc 0) X Z W x1 ao g am I R ([zSa K sa f, zSO n so sc D, zSC K n sc Cs, zCo K ak F O, zCo K tk Ft Ot, zCa K tc Tc] : zB).flatten (q_remove hS).1 B hX hbl hbA (r_hi hL h4L (k := 1) (by decide)) hv1 (by omega) (by omega) ?_
    refine z_fro (bs := zFu K ax sa ao az ak tk tc am n f so sc X ((fL_remove X Z W x1 g).2.1) W D Cs F O Ft Ot Tc ((fX5_remove I R x1).2.1) ((fX5_remove I R x1).2.2) ((fL_remove X Z W x1 g).2.2)) (bc := [zXo ax (az 0) sa (ak 0) (tk 0) (tc 0) X, zZo K az ((fL_remove X Z W x1 g).2.1) W, zOu K ao ((fL_remove X Z W x1 g).2.2), zMo K am ((fX5_remove I R x1).2.1) ((fX5_remove I R x1).2.2)]) (br := [zSa K sa f, zSO n so sc D, zSC K n sc Cs, zCo K ak F O, zCo K tk Ft Ot, zCa K tc Tc]) [0, 1, 9, 8] [2, 3, 4, 5, 6, 7] (zsp rfl rfl rfl) ?_
    exact next n f so sc X ((fL_remove X Z W x1 g).2.1) W D Cs F O Ft Ot Tc ((fX5_remove I R x1).2.1) ((fX5_remove I R x1).2.2) ((fL_remove X Z W x1 g).2.2) (q_remove hS).2 hf1 hf2
set_option maxHeartbeats 8000000 in
set_option maxRecDepth 100000 in
theorem law_op3 (l : Launch) (hl : l.stackTraces = false) {K : zK} {p : Program} {e : Env} {s : State} {m : MethodId} {below : List Frame} {meth : Method} {c : Code} {A : Nat → Prop} {Q : State → Prop} {ret9 : Option FieldType} {nm9 : String} {tb9 : List ExceptionTableEntry} {args : Array Value} {b L ii k9 n9 : Nat} {xs : Nat → Int32} (B : zF K p l s m args meth c A cL_law 7 RL nm9 wsL_law ret9 tb9) (hX : va_X b L xs s s.heap) (hbl : b < s.heap.size) (hbA : ¬ A b) (hL : L ≤ 2048) (h4L : ii + 4 ≤ L) (hk9 : k9 + 16 ≤ 601024) (hn9 : n9 + 512 ≤ 7293034) {ax sa ao : Nat} {az ak tk tc am : Nat → Nat}
    (next : ∀ (n : Nat) (f : Nat → Option Nat) (so : Nat → Nat) (sc : Nat → Nat → Nat) (X : Nat → Int32) (Z : Nat → Nat → Int32) (W : Nat → Int32) (D : Nat → Nat → Int32) (Cs : Nat → Nat → Nat → Int32) (F : Nat → Int32) (O : Nat → Int32) (Ft : Nat → Int32) (Ot : Nat → Int32) (Tc : Nat → Nat → Int32) (I : Nat → Int32) (R : Nat → Nat → Int32) (g : Nat → Int64), rR n X Z W D Cs O I R → (∀ a, a < n → f a = some (so a)) → (∀ a, n ≤ a → a < 4 → f a = none) → zW K p l e zR s m args below meth c A Q (k9 + 16) (n9 + 512) (zFu K ax sa ao az ak tk tc am n f so sc X Z W D Cs F O Ft Ot Tc I R g) [(0, .ref b), (1, .ref ax), (2, .ref (am 0)), (3, .ref ao), (4, .int (nI ii))] [] 1428) : ∀ (n : Nat) (f : Nat → Option Nat) (so : Nat → Nat) (sc : Nat → Nat → Nat) (X : Nat → Int32) (Z : Nat → Nat → Int32) (W : Nat → Int32) (D : Nat → Nat → Int32) (Cs : Nat → Nat → Nat → Int32) (F : Nat → Int32) (O : Nat → Int32) (Ft : Nat → Int32) (Ot : Nat → Int32) (Tc : Nat → Nat → Int32) (I : Nat → Int32) (R : Nat → Nat → Int32) (g : Nat → Int64), rR n X Z W D Cs O I R → (∀ a, a < n → f a = some (so a)) → (∀ a, n ≤ a → a < 4 → f a = none) → zW K p l e zR s m args below meth c A Q k9 n9 (zFu K ax sa ao az ak tk tc am n f so sc X Z W D Cs F O Ft Ot Tc I R g) [(0, .ref b), (1, .ref ax), (2, .ref (am 0)), (3, .ref ao), (4, .int (nI ii))] [.int (nI 3)] 39 := by
  intro n f so sc X Z W D Cs F O Ft Ot Tc I R g hS hf1 hf2
  have hn4 := hS.1.2.1
  have h5 : ¬ (I 5) < 0 := by rw [hS.1.1]; exact nI_pos (by omega)
  have h6 : (I 5).toNatClampNeg ≤ 4 := by rw [hS.1.1, nI_clamp (by omega)]; exact hn4
  have hZ := hS.2.1.zw
  have hC := hS.2.2.2.1.1
  have h4 := hS.2.1.2.2.2
  have hW4 : (W 4) = 0 ∨ (W 4) = 1 := by rw [hS.2.1.2.2.1]; exact h4
  have h16 := hS.2.2.1.2.2.2.2.2.2.2.2.2.2.2
  have hO5 : (O 5) = 0 ∨ (O 5) = 1 := by rw [hS.2.2.1.2.2.2.2.2.2.2.2.2.2.1]; exact h16
  have hX2 := hS.2.2.1.1
  have hon := hS.1.2.2.2
  have hD3 : ∀ i, i < n → (D i 3) = 0 ∨ (D i 3) = 1 := fun i hi => by rw [(hS.1.2.2.1 i hi).2.2.1]; exact hon i
  have i01 : (0 : Int32) = 0 ∨ (0 : Int32) = 1 := Or.inl rfl
  have i11 : (1 : Int32) = 0 ∨ (1 : Int32) = 1 := Or.inr rfl
  obtain ⟨x1, hv1⟩ : ∃ x1, xs (nI ii + 1).toNatClampNeg = x1 := ⟨_, rfl⟩
  obtain ⟨x2, hv2⟩ : ∃ x2, xs (nI ii + 2).toNatClampNeg = x2 := ⟨_, rfl⟩
  obtain ⟨x3, hv3⟩ : ∃ x3, xs (nI ii + 3).toNatClampNeg = x3 := ⟨_, rfl⟩
  have site : (∃ i, i < n ∧ x1 = nI i) ∨ (∀ i, i < n → x1 ≠ nI i) := by
    by_cases h : ∃ i, i < n ∧ x1 = nI i
    · exact Or.inl h
    · exact Or.inr fun i hi q => h ⟨i, hi, q⟩
  have near : fX4_near n D x1 = none ∨ ∃ i, i < n ∧ fX4_near n D x1 = some i := z_nearLt n D x1
  have miss : (∀ i, i < n → x1 ≠ nI i) → x1 < 4 → ¬ x1 < 0 → f x1.toNatClampNeg = none := by
    intro hm q1 q2
    obtain ⟨j, hj, rfl⟩ := nI_of q2
    have hj4 : j < 4 := (nI_ltI (b := 4) hj (by decide)).mp q1
    rw [nI_clamp hj]
    exact hf2 j (Nat.le_of_not_lt fun q => hm j q rfl) hj4
  · refine z_tsI B 347 dL_law_39 (by decide) (by decide) rfl rfl ?_
    refine z_to (bc := [zXo ax (az 0) sa (ak 0) (tk 0) (tc 0) X, zZo K az Z W, zOu K ao g, zMo K am I R]) (br := [zSa K sa f, zSO n so sc D, zSC K n sc Cs, zCo K ak F O, zCo K tk Ft Ot, zCa K tc Tc]) [0, 1, 9, 8] [2, 3, 4, 5, 6, 7] (zsp rfl rfl rfl) ?_
    refine aL_setBound l hl K ax az sa (ak 0) (tk 0) (tc 0) X Z W x1 ao g am I R ([zSa K sa f, zSO n so sc D, zSC K n sc Cs, zCo K ak F O, zCo K tk Ft Ot, zCa K tc Tc] : zB).flatten (q_setBound hS).1 B hX hbl hbA (r_hi hL h4L (k := 1) (by decide)) hv1 (by omega) (by omega) ?_
    refine z_fro (bs := zFu K ax sa ao az ak tk tc am n f so sc X Z ((fL_setBound X Z W x1 g).2.1) D Cs F O Ft Ot Tc ((fX5_setBound I R x1).2) R ((fL_setBound X Z W x1 g).2.2)) (bc := [zXo ax (az 0) sa (ak 0) (tk 0) (tc 0) X, zZo K az Z ((fL_setBound X Z W x1 g).2.1), zOu K ao ((fL_setBound X Z W x1 g).2.2), zMo K am ((fX5_setBound I R x1).2) R]) (br := [zSa K sa f, zSO n so sc D, zSC K n sc Cs, zCo K ak F O, zCo K tk Ft Ot, zCa K tc Tc]) [0, 1, 9, 8] [2, 3, 4, 5, 6, 7] (zsp rfl rfl rfl) ?_
    exact next n f so sc X Z ((fL_setBound X Z W x1 g).2.1) D Cs F O Ft Ot Tc ((fX5_setBound I R x1).2) R ((fL_setBound X Z W x1 g).2.2) (q_setBound hS).2 hf1 hf2
set_option maxHeartbeats 8000000 in
set_option maxRecDepth 100000 in
theorem law_op4 (l : Launch) (hl : l.stackTraces = false) {K : zK} {p : Program} {e : Env} {s : State} {m : MethodId} {below : List Frame} {meth : Method} {c : Code} {A : Nat → Prop} {Q : State → Prop} {ret9 : Option FieldType} {nm9 : String} {tb9 : List ExceptionTableEntry} {args : Array Value} {b L ii k9 n9 : Nat} {xs : Nat → Int32} (B : zF K p l s m args meth c A cL_law 7 RL nm9 wsL_law ret9 tb9) (hX : va_X b L xs s s.heap) (hbl : b < s.heap.size) (hbA : ¬ A b) (hL : L ≤ 2048) (h4L : ii + 4 ≤ L) (hk9 : k9 + 16 ≤ 601024) (hn9 : n9 + 512 ≤ 7293034) {ax sa ao : Nat} {az ak tk tc am : Nat → Nat}
    (next : ∀ (n : Nat) (f : Nat → Option Nat) (so : Nat → Nat) (sc : Nat → Nat → Nat) (X : Nat → Int32) (Z : Nat → Nat → Int32) (W : Nat → Int32) (D : Nat → Nat → Int32) (Cs : Nat → Nat → Nat → Int32) (F : Nat → Int32) (O : Nat → Int32) (Ft : Nat → Int32) (Ot : Nat → Int32) (Tc : Nat → Nat → Int32) (I : Nat → Int32) (R : Nat → Nat → Int32) (g : Nat → Int64), rR n X Z W D Cs O I R → (∀ a, a < n → f a = some (so a)) → (∀ a, n ≤ a → a < 4 → f a = none) → zW K p l e zR s m args below meth c A Q (k9 + 16) (n9 + 512) (zFu K ax sa ao az ak tk tc am n f so sc X Z W D Cs F O Ft Ot Tc I R g) [(0, .ref b), (1, .ref ax), (2, .ref (am 0)), (3, .ref ao), (4, .int (nI ii))] [] 1428) : ∀ (n : Nat) (f : Nat → Option Nat) (so : Nat → Nat) (sc : Nat → Nat → Nat) (X : Nat → Int32) (Z : Nat → Nat → Int32) (W : Nat → Int32) (D : Nat → Nat → Int32) (Cs : Nat → Nat → Nat → Int32) (F : Nat → Int32) (O : Nat → Int32) (Ft : Nat → Int32) (Ot : Nat → Int32) (Tc : Nat → Nat → Int32) (I : Nat → Int32) (R : Nat → Nat → Int32) (g : Nat → Int64), rR n X Z W D Cs O I R → (∀ a, a < n → f a = some (so a)) → (∀ a, n ≤ a → a < 4 → f a = none) → zW K p l e zR s m args below meth c A Q k9 n9 (zFu K ax sa ao az ak tk tc am n f so sc X Z W D Cs F O Ft Ot Tc I R g) [(0, .ref b), (1, .ref ax), (2, .ref (am 0)), (3, .ref ao), (4, .int (nI ii))] [.int (nI 4)] 39 := by
  intro n f so sc X Z W D Cs F O Ft Ot Tc I R g hS hf1 hf2
  have hn4 := hS.1.2.1
  have h5 : ¬ (I 5) < 0 := by rw [hS.1.1]; exact nI_pos (by omega)
  have h6 : (I 5).toNatClampNeg ≤ 4 := by rw [hS.1.1, nI_clamp (by omega)]; exact hn4
  have hZ := hS.2.1.zw
  have hC := hS.2.2.2.1.1
  have h4 := hS.2.1.2.2.2
  have hW4 : (W 4) = 0 ∨ (W 4) = 1 := by rw [hS.2.1.2.2.1]; exact h4
  have h16 := hS.2.2.1.2.2.2.2.2.2.2.2.2.2.2
  have hO5 : (O 5) = 0 ∨ (O 5) = 1 := by rw [hS.2.2.1.2.2.2.2.2.2.2.2.2.2.1]; exact h16
  have hX2 := hS.2.2.1.1
  have hon := hS.1.2.2.2
  have hD3 : ∀ i, i < n → (D i 3) = 0 ∨ (D i 3) = 1 := fun i hi => by rw [(hS.1.2.2.1 i hi).2.2.1]; exact hon i
  have i01 : (0 : Int32) = 0 ∨ (0 : Int32) = 1 := Or.inl rfl
  have i11 : (1 : Int32) = 0 ∨ (1 : Int32) = 1 := Or.inr rfl
  obtain ⟨x1, hv1⟩ : ∃ x1, xs (nI ii + 1).toNatClampNeg = x1 := ⟨_, rfl⟩
  obtain ⟨x2, hv2⟩ : ∃ x2, xs (nI ii + 2).toNatClampNeg = x2 := ⟨_, rfl⟩
  obtain ⟨x3, hv3⟩ : ∃ x3, xs (nI ii + 3).toNatClampNeg = x3 := ⟨_, rfl⟩
  have site : (∃ i, i < n ∧ x1 = nI i) ∨ (∀ i, i < n → x1 ≠ nI i) := by
    by_cases h : ∃ i, i < n ∧ x1 = nI i
    · exact Or.inl h
    · exact Or.inr fun i hi q => h ⟨i, hi, q⟩
  have near : fX4_near n D x1 = none ∨ ∃ i, i < n ∧ fX4_near n D x1 = some i := z_nearLt n D x1
  have miss : (∀ i, i < n → x1 ≠ nI i) → x1 < 4 → ¬ x1 < 0 → f x1.toNatClampNeg = none := by
    intro hm q1 q2
    obtain ⟨j, hj, rfl⟩ := nI_of q2
    have hj4 : j < 4 := (nI_ltI (b := 4) hj (by decide)).mp q1
    rw [nI_clamp hj]
    exact hf2 j (Nat.le_of_not_lt fun q => hm j q rfl) hj4
  · by_cases hy1 : x1 = 0
    · refine z_tsI B 403 dL_law_39 (by decide) (by decide) rfl rfl ?_
      refine z_to (bc := [zXo ax (az 0) sa (ak 0) (tk 0) (tc 0) X, zZo K az Z W, zMo K am I R]) (br := [zSa K sa f, zSO n so sc D, zSC K n sc Cs, zCo K ak F O, zCo K tk Ft Ot, zCa K tc Tc, zOu K ao g]) [0, 1, 8] [2, 3, 4, 5, 6, 7, 9] (zsp rfl rfl rfl) ?_
      refine aL_setAuthority_0 l hl ao K ax az sa (ak 0) (tk 0) (tc 0) X Z W am I R x1 hy1 hW4 h4 ([zSa K sa f, zSO n so sc D, zSC K n sc Cs, zCo K ak F O, zCo K tk Ft Ot, zCa K tc Tc, zOu K ao g] : zB).flatten (q_setAuthority i01 hS).1 B hX hbl hbA (r_hi hL h4L (k := 1) (by decide)) hv1 (by omega) (by omega) ?_
      refine z_fro (bs := zFu K ax sa ao az ak tk tc am n f so sc X Z ((fX4_setAuthority X Z W 0).2) D Cs F O Ft Ot Tc ((fX5_setAuthority I R 0).2) R g) (bc := [zXo ax (az 0) sa (ak 0) (tk 0) (tc 0) X, zZo K az Z ((fX4_setAuthority X Z W 0).2), zMo K am ((fX5_setAuthority I R 0).2) R]) (br := [zSa K sa f, zSO n so sc D, zSC K n sc Cs, zCo K ak F O, zCo K tk Ft Ot, zCa K tc Tc, zOu K ao g]) [0, 1, 8] [2, 3, 4, 5, 6, 7, 9] (zsp rfl rfl rfl) ?_
      exact next n f so sc X Z ((fX4_setAuthority X Z W 0).2) D Cs F O Ft Ot Tc ((fX5_setAuthority I R 0).2) R g (q_setAuthority i01 hS).2 hf1 hf2
    · refine z_tsI B 403 dL_law_39 (by decide) (by decide) rfl rfl ?_
      refine z_to (bc := [zXo ax (az 0) sa (ak 0) (tk 0) (tc 0) X, zZo K az Z W, zMo K am I R]) (br := [zSa K sa f, zSO n so sc D, zSC K n sc Cs, zCo K ak F O, zCo K tk Ft Ot, zCa K tc Tc, zOu K ao g]) [0, 1, 8] [2, 3, 4, 5, 6, 7, 9] (zsp rfl rfl rfl) ?_
      refine aL_setAuthority_1 l hl ao K ax az sa (ak 0) (tk 0) (tc 0) X Z W am I R x1 hy1 hW4 h4 ([zSa K sa f, zSO n so sc D, zSC K n sc Cs, zCo K ak F O, zCo K tk Ft Ot, zCa K tc Tc, zOu K ao g] : zB).flatten (q_setAuthority i11 hS).1 B hX hbl hbA (r_hi hL h4L (k := 1) (by decide)) hv1 (by omega) (by omega) ?_
      refine z_fro (bs := zFu K ax sa ao az ak tk tc am n f so sc X Z ((fX4_setAuthority X Z W 1).2) D Cs F O Ft Ot Tc ((fX5_setAuthority I R 1).2) R g) (bc := [zXo ax (az 0) sa (ak 0) (tk 0) (tc 0) X, zZo K az Z ((fX4_setAuthority X Z W 1).2), zMo K am ((fX5_setAuthority I R 1).2) R]) (br := [zSa K sa f, zSO n so sc D, zSC K n sc Cs, zCo K ak F O, zCo K tk Ft Ot, zCa K tc Tc, zOu K ao g]) [0, 1, 8] [2, 3, 4, 5, 6, 7, 9] (zsp rfl rfl rfl) ?_
      exact next n f so sc X Z ((fX4_setAuthority X Z W 1).2) D Cs F O Ft Ot Tc ((fX5_setAuthority I R 1).2) R g (q_setAuthority i11 hS).2 hf1 hf2
set_option maxHeartbeats 8000000 in
set_option maxRecDepth 100000 in
theorem law_op5 (l : Launch) (hl : l.stackTraces = false) {K : zK} {p : Program} {e : Env} {s : State} {m : MethodId} {below : List Frame} {meth : Method} {c : Code} {A : Nat → Prop} {Q : State → Prop} {ret9 : Option FieldType} {nm9 : String} {tb9 : List ExceptionTableEntry} {args : Array Value} {b L ii k9 n9 : Nat} {xs : Nat → Int32} (B : zF K p l s m args meth c A cL_law 7 RL nm9 wsL_law ret9 tb9) (hX : va_X b L xs s s.heap) (hbl : b < s.heap.size) (hbA : ¬ A b) (hL : L ≤ 2048) (h4L : ii + 4 ≤ L) (hk9 : k9 + 16 ≤ 601024) (hn9 : n9 + 512 ≤ 7293034) {ax sa ao : Nat} {az ak tk tc am : Nat → Nat}
    (next : ∀ (n : Nat) (f : Nat → Option Nat) (so : Nat → Nat) (sc : Nat → Nat → Nat) (X : Nat → Int32) (Z : Nat → Nat → Int32) (W : Nat → Int32) (D : Nat → Nat → Int32) (Cs : Nat → Nat → Nat → Int32) (F : Nat → Int32) (O : Nat → Int32) (Ft : Nat → Int32) (Ot : Nat → Int32) (Tc : Nat → Nat → Int32) (I : Nat → Int32) (R : Nat → Nat → Int32) (g : Nat → Int64), rR n X Z W D Cs O I R → (∀ a, a < n → f a = some (so a)) → (∀ a, n ≤ a → a < 4 → f a = none) → zW K p l e zR s m args below meth c A Q (k9 + 16) (n9 + 512) (zFu K ax sa ao az ak tk tc am n f so sc X Z W D Cs F O Ft Ot Tc I R g) [(0, .ref b), (1, .ref ax), (2, .ref (am 0)), (3, .ref ao), (4, .int (nI ii))] [] 1428) : ∀ (n : Nat) (f : Nat → Option Nat) (so : Nat → Nat) (sc : Nat → Nat → Nat) (X : Nat → Int32) (Z : Nat → Nat → Int32) (W : Nat → Int32) (D : Nat → Nat → Int32) (Cs : Nat → Nat → Nat → Int32) (F : Nat → Int32) (O : Nat → Int32) (Ft : Nat → Int32) (Ot : Nat → Int32) (Tc : Nat → Nat → Int32) (I : Nat → Int32) (R : Nat → Nat → Int32) (g : Nat → Int64), rR n X Z W D Cs O I R → (∀ a, a < n → f a = some (so a)) → (∀ a, n ≤ a → a < 4 → f a = none) → zW K p l e zR s m args below meth c A Q k9 n9 (zFu K ax sa ao az ak tk tc am n f so sc X Z W D Cs F O Ft Ot Tc I R g) [(0, .ref b), (1, .ref ax), (2, .ref (am 0)), (3, .ref ao), (4, .int (nI ii))] [.int (nI 5)] 39 := by
  intro n f so sc X Z W D Cs F O Ft Ot Tc I R g hS hf1 hf2
  have hn4 := hS.1.2.1
  have h5 : ¬ (I 5) < 0 := by rw [hS.1.1]; exact nI_pos (by omega)
  have h6 : (I 5).toNatClampNeg ≤ 4 := by rw [hS.1.1, nI_clamp (by omega)]; exact hn4
  have hZ := hS.2.1.zw
  have hC := hS.2.2.2.1.1
  have h4 := hS.2.1.2.2.2
  have hW4 : (W 4) = 0 ∨ (W 4) = 1 := by rw [hS.2.1.2.2.1]; exact h4
  have h16 := hS.2.2.1.2.2.2.2.2.2.2.2.2.2.2
  have hO5 : (O 5) = 0 ∨ (O 5) = 1 := by rw [hS.2.2.1.2.2.2.2.2.2.2.2.2.2.1]; exact h16
  have hX2 := hS.2.2.1.1
  have hon := hS.1.2.2.2
  have hD3 : ∀ i, i < n → (D i 3) = 0 ∨ (D i 3) = 1 := fun i hi => by rw [(hS.1.2.2.1 i hi).2.2.1]; exact hon i
  have i01 : (0 : Int32) = 0 ∨ (0 : Int32) = 1 := Or.inl rfl
  have i11 : (1 : Int32) = 0 ∨ (1 : Int32) = 1 := Or.inr rfl
  obtain ⟨x1, hv1⟩ : ∃ x1, xs (nI ii + 1).toNatClampNeg = x1 := ⟨_, rfl⟩
  obtain ⟨x2, hv2⟩ : ∃ x2, xs (nI ii + 2).toNatClampNeg = x2 := ⟨_, rfl⟩
  obtain ⟨x3, hv3⟩ : ∃ x3, xs (nI ii + 3).toNatClampNeg = x3 := ⟨_, rfl⟩
  have site : (∃ i, i < n ∧ x1 = nI i) ∨ (∀ i, i < n → x1 ≠ nI i) := by
    by_cases h : ∃ i, i < n ∧ x1 = nI i
    · exact Or.inl h
    · exact Or.inr fun i hi q => h ⟨i, hi, q⟩
  have near : fX4_near n D x1 = none ∨ ∃ i, i < n ∧ fX4_near n D x1 = some i := z_nearLt n D x1
  have miss : (∀ i, i < n → x1 ≠ nI i) → x1 < 4 → ¬ x1 < 0 → f x1.toNatClampNeg = none := by
    intro hm q1 q2
    obtain ⟨j, hj, rfl⟩ := nI_of q2
    have hj4 : j < 4 := (nI_ltI (b := 4) hj (by decide)).mp q1
    rw [nI_clamp hj]
    exact hf2 j (Nat.le_of_not_lt fun q => hm j q rfl) hj4
  · refine z_tsI B 444 dL_law_39 (by decide) (by decide) rfl rfl ?_
    refine z_to (bc := [zXo ax (az 0) sa (ak 0) (tk 0) (tc 0) X, zZo K az Z W, zOu K ao g, zMo K am I R]) (br := [zSa K sa f, zSO n so sc D, zSC K n sc Cs, zCo K ak F O, zCo K tk Ft Ot, zCa K tc Tc]) [0, 1, 9, 8] [2, 3, 4, 5, 6, 7] (zsp rfl rfl rfl) ?_
    refine aL_truth l hl K ax az sa (ak 0) (tk 0) (tc 0) X Z W x1 ao g am I R hZ ([zSa K sa f, zSO n so sc D, zSC K n sc Cs, zCo K ak F O, zCo K tk Ft Ot, zCa K tc Tc] : zB).flatten (q_truth hS).1 B hX hbl hbA (r_hi hL h4L (k := 1) (by decide)) hv1 (by omega) (by omega) ?_
    refine z_fro (bs := zFu K ax sa ao az ak tk tc am n f so sc X Z W D Cs F O Ft Ot Tc ((fX5_truth I R x1).2) R ((fL_truth X Z W x1 g).2)) (bc := [zXo ax (az 0) sa (ak 0) (tk 0) (tc 0) X, zZo K az Z W, zOu K ao ((fL_truth X Z W x1 g).2), zMo K am ((fX5_truth I R x1).2) R]) (br := [zSa K sa f, zSO n so sc D, zSC K n sc Cs, zCo K ak F O, zCo K tk Ft Ot, zCa K tc Tc]) [0, 1, 9, 8] [2, 3, 4, 5, 6, 7] (zsp rfl rfl rfl) ?_
    exact next n f so sc X Z W D Cs F O Ft Ot Tc ((fX5_truth I R x1).2) R ((fL_truth X Z W x1 g).2) (q_truth hS).2 hf1 hf2
set_option maxHeartbeats 8000000 in
set_option maxRecDepth 100000 in
theorem law_op6 (l : Launch) (hl : l.stackTraces = false) {K : zK} {p : Program} {e : Env} {s : State} {m : MethodId} {below : List Frame} {meth : Method} {c : Code} {A : Nat → Prop} {Q : State → Prop} {ret9 : Option FieldType} {nm9 : String} {tb9 : List ExceptionTableEntry} {args : Array Value} {b L ii k9 n9 : Nat} {xs : Nat → Int32} (B : zF K p l s m args meth c A cL_law 7 RL nm9 wsL_law ret9 tb9) (hX : va_X b L xs s s.heap) (hbl : b < s.heap.size) (hbA : ¬ A b) (hL : L ≤ 2048) (h4L : ii + 4 ≤ L) (hk9 : k9 + 16 ≤ 601024) (hn9 : n9 + 512 ≤ 7293034) {ax sa ao : Nat} {az ak tk tc am : Nat → Nat}
    (next : ∀ (n : Nat) (f : Nat → Option Nat) (so : Nat → Nat) (sc : Nat → Nat → Nat) (X : Nat → Int32) (Z : Nat → Nat → Int32) (W : Nat → Int32) (D : Nat → Nat → Int32) (Cs : Nat → Nat → Nat → Int32) (F : Nat → Int32) (O : Nat → Int32) (Ft : Nat → Int32) (Ot : Nat → Int32) (Tc : Nat → Nat → Int32) (I : Nat → Int32) (R : Nat → Nat → Int32) (g : Nat → Int64), rR n X Z W D Cs O I R → (∀ a, a < n → f a = some (so a)) → (∀ a, n ≤ a → a < 4 → f a = none) → zW K p l e zR s m args below meth c A Q (k9 + 16) (n9 + 512) (zFu K ax sa ao az ak tk tc am n f so sc X Z W D Cs F O Ft Ot Tc I R g) [(0, .ref b), (1, .ref ax), (2, .ref (am 0)), (3, .ref ao), (4, .int (nI ii))] [] 1428) : ∀ (n : Nat) (f : Nat → Option Nat) (so : Nat → Nat) (sc : Nat → Nat → Nat) (X : Nat → Int32) (Z : Nat → Nat → Int32) (W : Nat → Int32) (D : Nat → Nat → Int32) (Cs : Nat → Nat → Nat → Int32) (F : Nat → Int32) (O : Nat → Int32) (Ft : Nat → Int32) (Ot : Nat → Int32) (Tc : Nat → Nat → Int32) (I : Nat → Int32) (R : Nat → Nat → Int32) (g : Nat → Int64), rR n X Z W D Cs O I R → (∀ a, a < n → f a = some (so a)) → (∀ a, n ≤ a → a < 4 → f a = none) → zW K p l e zR s m args below meth c A Q k9 n9 (zFu K ax sa ao az ak tk tc am n f so sc X Z W D Cs F O Ft Ot Tc I R g) [(0, .ref b), (1, .ref ax), (2, .ref (am 0)), (3, .ref ao), (4, .int (nI ii))] [.int (nI 6)] 39 := by
  intro n f so sc X Z W D Cs F O Ft Ot Tc I R g hS hf1 hf2
  have hn4 := hS.1.2.1
  have h5 : ¬ (I 5) < 0 := by rw [hS.1.1]; exact nI_pos (by omega)
  have h6 : (I 5).toNatClampNeg ≤ 4 := by rw [hS.1.1, nI_clamp (by omega)]; exact hn4
  have hZ := hS.2.1.zw
  have hC := hS.2.2.2.1.1
  have h4 := hS.2.1.2.2.2
  have hW4 : (W 4) = 0 ∨ (W 4) = 1 := by rw [hS.2.1.2.2.1]; exact h4
  have h16 := hS.2.2.1.2.2.2.2.2.2.2.2.2.2.2
  have hO5 : (O 5) = 0 ∨ (O 5) = 1 := by rw [hS.2.2.1.2.2.2.2.2.2.2.2.2.2.1]; exact h16
  have hX2 := hS.2.2.1.1
  have hon := hS.1.2.2.2
  have hD3 : ∀ i, i < n → (D i 3) = 0 ∨ (D i 3) = 1 := fun i hi => by rw [(hS.1.2.2.1 i hi).2.2.1]; exact hon i
  have i01 : (0 : Int32) = 0 ∨ (0 : Int32) = 1 := Or.inl rfl
  have i11 : (1 : Int32) = 0 ∨ (1 : Int32) = 1 := Or.inr rfl
  obtain ⟨x1, hv1⟩ : ∃ x1, xs (nI ii + 1).toNatClampNeg = x1 := ⟨_, rfl⟩
  obtain ⟨x2, hv2⟩ : ∃ x2, xs (nI ii + 2).toNatClampNeg = x2 := ⟨_, rfl⟩
  obtain ⟨x3, hv3⟩ : ∃ x3, xs (nI ii + 3).toNatClampNeg = x3 := ⟨_, rfl⟩
  have site : (∃ i, i < n ∧ x1 = nI i) ∨ (∀ i, i < n → x1 ≠ nI i) := by
    by_cases h : ∃ i, i < n ∧ x1 = nI i
    · exact Or.inl h
    · exact Or.inr fun i hi q => h ⟨i, hi, q⟩
  have near : fX4_near n D x1 = none ∨ ∃ i, i < n ∧ fX4_near n D x1 = some i := z_nearLt n D x1
  have miss : (∀ i, i < n → x1 ≠ nI i) → x1 < 4 → ¬ x1 < 0 → f x1.toNatClampNeg = none := by
    intro hm q1 q2
    obtain ⟨j, hj, rfl⟩ := nI_of q2
    have hj4 : j < 4 := (nI_ltI (b := 4) hj (by decide)).mp q1
    rw [nI_clamp hj]
    exact hf2 j (Nat.le_of_not_lt fun q => hm j q rfl) hj4
  · have hq := q_addSite (x1 := x1) (g := g) hS
    by_cases hc : (fX4_addSite X x1).1 = 0
    · rw [if_pos hc] at hq
      refine z_tsI B 500 dL_law_39 (by decide) (by decide) rfl rfl ?_
      refine z_to (bc := [zXo ax (az 0) sa (ak 0) (tk 0) (tc 0) X, zSa K sa f, zSO n so sc D, zSC K n sc Cs, zOu K ao g, zMo K am I R]) (br := [zZo K az Z W, zCo K ak F O, zCo K tk Ft Ot, zCa K tc Tc]) [0, 2, 3, 4, 9, 8] [1, 5, 6, 7] (zsp rfl rfl rfl) ?_
      refine aL_addSite_ok l hl K ax (az 0) sa (ak 0) (tk 0) (tc 0) X f n so sc D Cs x1 ao g am I R hX2 hn4 hc h5 h6 ([zZo K az Z W, zCo K ak F O, zCo K tk Ft Ot, zCa K tc Tc] : zB).flatten hq.1 B hX hbl hbA (r_hi hL h4L (k := 1) (by decide)) hv1 (by omega) (by omega) (fun u9 => ?_)
      refine z_fro (bs := zFu K ax sa ao az ak tk tc am (n + 1) (va_up f n (some u9.1)) (va_up so n u9.1) (va_up sc n u9.2) (fX4_addSite X x1).2.2 Z W (va_up D n (va_up (va_up (va_up (fun _ => 0) 0 (X 2)) 1 x1) 3 1)) (va_up Cs n zC0) F O Ft Ot Tc (fX5_addSite I R x1).2.1 (fX5_addSite I R x1).2.2 (fL_addSite X x1 g).2) (bc := [zXo ax (az 0) sa (ak 0) (tk 0) (tc 0) (fX4_addSite X x1).2.2, zSa K sa (va_up f n (some u9.1)), zSO (n + 1) (va_up so n u9.1) (va_up sc n u9.2) (va_up D n (va_up (va_up (va_up (fun _ => 0) 0 (X 2)) 1 x1) 3 1)), zSC K (n + 1) (va_up sc n u9.2) (va_up Cs n zC0), zOu K ao (fL_addSite X x1 g).2, zMo K am (fX5_addSite I R x1).2.1 (fX5_addSite I R x1).2.2]) (br := [zZo K az Z W, zCo K ak F O, zCo K tk Ft Ot, zCa K tc Tc]) [0, 2, 3, 4, 9, 8] [1, 5, 6, 7] (zsp rfl rfl rfl) ?_
      refine next (n + 1) (va_up f n (some u9.1)) (va_up so n u9.1) (va_up sc n u9.2) (fX4_addSite X x1).2.2 Z W (va_up D n (va_up (va_up (va_up (fun _ => 0) 0 (X 2)) 1 x1) 3 1)) (va_up Cs n zC0) F O Ft Ot Tc (fX5_addSite I R x1).2.1 (fX5_addSite I R x1).2.2 (fL_addSite X x1 g).2 hq.2.2 (fun a ha => ?_) (fun a ha h4 => ?_)
      · by_cases q : a = n
        · rw [q, va_up_self, va_up_self]
        · rw [va_up_ne _ _ q, va_up_ne _ _ q]; exact hf1 a (by omega)
      · rw [va_up_ne _ _ (by omega)]; exact hf2 a (by omega) h4
    · rw [if_neg hc] at hq
      refine z_tsI B 500 dL_law_39 (by decide) (by decide) rfl rfl ?_
      refine z_to (bc := [zXo ax (az 0) sa (ak 0) (tk 0) (tc 0) X, zSa K sa f, zSO n so sc D, zSC K n sc Cs, zOu K ao g, zMo K am I R]) (br := [zZo K az Z W, zCo K ak F O, zCo K tk Ft Ot, zCa K tc Tc]) [0, 2, 3, 4, 9, 8] [1, 5, 6, 7] (zsp rfl rfl rfl) ?_
      refine aL_addSite_no l hl K ax (az 0) sa (ak 0) (tk 0) (tc 0) X f n so sc D Cs x1 ao g am I R hX2 hn4 hc h5 h6 ([zZo K az Z W, zCo K ak F O, zCo K tk Ft Ot, zCa K tc Tc] : zB).flatten hq.1 B hX hbl hbA (r_hi hL h4L (k := 1) (by decide)) hv1 (by omega) (by omega) (fun u9 => ?_)
      refine z_fro (bs := zFu K ax sa ao az ak tk tc am n f so sc X Z W D Cs F O Ft Ot Tc (fX5_addSite I R x1).2.1 (fX5_addSite I R x1).2.2 (fL_addSite X x1 g).2) (bc := [zXo ax (az 0) sa (ak 0) (tk 0) (tc 0) X, zSa K sa f, zSO n so sc D, zSC K n sc Cs, zOu K ao (fL_addSite X x1 g).2, zMo K am (fX5_addSite I R x1).2.1 (fX5_addSite I R x1).2.2]) (br := [zZo K az Z W, zCo K ak F O, zCo K tk Ft Ot, zCa K tc Tc]) [0, 2, 3, 4, 9, 8] [1, 5, 6, 7] (zsp rfl rfl rfl) ?_
      exact next n f so sc X Z W D Cs F O Ft Ot Tc (fX5_addSite I R x1).2.1 (fX5_addSite I R x1).2.2 (fL_addSite X x1 g).2 hq.2 hf1 hf2
set_option maxHeartbeats 8000000 in
set_option maxRecDepth 100000 in
theorem law_op7 (l : Launch) (hl : l.stackTraces = false) {K : zK} {p : Program} {e : Env} {s : State} {m : MethodId} {below : List Frame} {meth : Method} {c : Code} {A : Nat → Prop} {Q : State → Prop} {ret9 : Option FieldType} {nm9 : String} {tb9 : List ExceptionTableEntry} {args : Array Value} {b L ii k9 n9 : Nat} {xs : Nat → Int32} (B : zF K p l s m args meth c A cL_law 7 RL nm9 wsL_law ret9 tb9) (hX : va_X b L xs s s.heap) (hbl : b < s.heap.size) (hbA : ¬ A b) (hL : L ≤ 2048) (h4L : ii + 4 ≤ L) (hk9 : k9 + 16 ≤ 601024) (hn9 : n9 + 512 ≤ 7293034) {ax sa ao : Nat} {az ak tk tc am : Nat → Nat}
    (next : ∀ (n : Nat) (f : Nat → Option Nat) (so : Nat → Nat) (sc : Nat → Nat → Nat) (X : Nat → Int32) (Z : Nat → Nat → Int32) (W : Nat → Int32) (D : Nat → Nat → Int32) (Cs : Nat → Nat → Nat → Int32) (F : Nat → Int32) (O : Nat → Int32) (Ft : Nat → Int32) (Ot : Nat → Int32) (Tc : Nat → Nat → Int32) (I : Nat → Int32) (R : Nat → Nat → Int32) (g : Nat → Int64), rR n X Z W D Cs O I R → (∀ a, a < n → f a = some (so a)) → (∀ a, n ≤ a → a < 4 → f a = none) → zW K p l e zR s m args below meth c A Q (k9 + 16) (n9 + 512) (zFu K ax sa ao az ak tk tc am n f so sc X Z W D Cs F O Ft Ot Tc I R g) [(0, .ref b), (1, .ref ax), (2, .ref (am 0)), (3, .ref ao), (4, .int (nI ii))] [] 1428) : ∀ (n : Nat) (f : Nat → Option Nat) (so : Nat → Nat) (sc : Nat → Nat → Nat) (X : Nat → Int32) (Z : Nat → Nat → Int32) (W : Nat → Int32) (D : Nat → Nat → Int32) (Cs : Nat → Nat → Nat → Int32) (F : Nat → Int32) (O : Nat → Int32) (Ft : Nat → Int32) (Ot : Nat → Int32) (Tc : Nat → Nat → Int32) (I : Nat → Int32) (R : Nat → Nat → Int32) (g : Nat → Int64), rR n X Z W D Cs O I R → (∀ a, a < n → f a = some (so a)) → (∀ a, n ≤ a → a < 4 → f a = none) → zW K p l e zR s m args below meth c A Q k9 n9 (zFu K ax sa ao az ak tk tc am n f so sc X Z W D Cs F O Ft Ot Tc I R g) [(0, .ref b), (1, .ref ax), (2, .ref (am 0)), (3, .ref ao), (4, .int (nI ii))] [.int (nI 7)] 39 := by
  intro n f so sc X Z W D Cs F O Ft Ot Tc I R g hS hf1 hf2
  have hn4 := hS.1.2.1
  have h5 : ¬ (I 5) < 0 := by rw [hS.1.1]; exact nI_pos (by omega)
  have h6 : (I 5).toNatClampNeg ≤ 4 := by rw [hS.1.1, nI_clamp (by omega)]; exact hn4
  have hZ := hS.2.1.zw
  have hC := hS.2.2.2.1.1
  have h4 := hS.2.1.2.2.2
  have hW4 : (W 4) = 0 ∨ (W 4) = 1 := by rw [hS.2.1.2.2.1]; exact h4
  have h16 := hS.2.2.1.2.2.2.2.2.2.2.2.2.2.2
  have hO5 : (O 5) = 0 ∨ (O 5) = 1 := by rw [hS.2.2.1.2.2.2.2.2.2.2.2.2.2.1]; exact h16
  have hX2 := hS.2.2.1.1
  have hon := hS.1.2.2.2
  have hD3 : ∀ i, i < n → (D i 3) = 0 ∨ (D i 3) = 1 := fun i hi => by rw [(hS.1.2.2.1 i hi).2.2.1]; exact hon i
  have i01 : (0 : Int32) = 0 ∨ (0 : Int32) = 1 := Or.inl rfl
  have i11 : (1 : Int32) = 0 ∨ (1 : Int32) = 1 := Or.inr rfl
  obtain ⟨x1, hv1⟩ : ∃ x1, xs (nI ii + 1).toNatClampNeg = x1 := ⟨_, rfl⟩
  obtain ⟨x2, hv2⟩ : ∃ x2, xs (nI ii + 2).toNatClampNeg = x2 := ⟨_, rfl⟩
  obtain ⟨x3, hv3⟩ : ∃ x3, xs (nI ii + 3).toNatClampNeg = x3 := ⟨_, rfl⟩
  have site : (∃ i, i < n ∧ x1 = nI i) ∨ (∀ i, i < n → x1 ≠ nI i) := by
    by_cases h : ∃ i, i < n ∧ x1 = nI i
    · exact Or.inl h
    · exact Or.inr fun i hi q => h ⟨i, hi, q⟩
  have near : fX4_near n D x1 = none ∨ ∃ i, i < n ∧ fX4_near n D x1 = some i := z_nearLt n D x1
  have miss : (∀ i, i < n → x1 ≠ nI i) → x1 < 4 → ¬ x1 < 0 → f x1.toNatClampNeg = none := by
    intro hm q1 q2
    obtain ⟨j, hj, rfl⟩ := nI_of q2
    have hj4 : j < 4 := (nI_ltI (b := 4) hj (by decide)).mp q1
    rw [nI_clamp hj]
    exact hf2 j (Nat.le_of_not_lt fun q => hm j q rfl) hj4
  · rcases site with ⟨i, hi, ei⟩ | hm
    · rw [ei] at hv1
      by_cases hy2 : x2 = 0
      · refine z_tsI B 556 dL_law_39 (by decide) (by decide) rfl rfl ?_
        refine z_to (bc := [zXo ax (az 0) sa (ak 0) (tk 0) (tc 0) X, zSa K sa f, zSO n so sc D, zOu K ao g, zMo K am I R]) (br := [zZo K az Z W, zSC K n sc Cs, zCo K ak F O, zCo K tk Ft Ot, zCa K tc Tc]) [0, 2, 3, 9, 8] [1, 4, 5, 6, 7] (zsp rfl rfl rfl) ?_
        refine aL_announce_h0 l hl K ax (az 0) sa (ak 0) (tk 0) (tc 0) X f n so sc D i ao g am I R x2 hy2 (by omega) hi (z_fcl hf1 hi (by omega)) (hD3 i hi) h5 h6 hon ([zZo K az Z W, zSC K n sc Cs, zCo K ak F O, zCo K tk Ft Ot, zCa K tc Tc] : zB).flatten (q_announce_h hS hi i01).1 B hX hbl hbA (r_hi hL h4L (k := 1) (by decide)) hv1 (r_hi hL h4L (k := 2) (by decide)) hv2 (by omega) (by omega) ?_
        refine z_fro (bs := zFu K ax sa ao az ak tk tc am n f so sc X Z W ((fL_announce_h D i 0 g).2.1) Cs F O Ft Ot Tc ((fX5_announce I R (nI i) 0).2.1) ((fX5_announce I R (nI i) 0).2.2) ((fL_announce_h D i 0 g).2.2)) (bc := [zXo ax (az 0) sa (ak 0) (tk 0) (tc 0) X, zSa K sa f, zSO n so sc ((fL_announce_h D i 0 g).2.1), zOu K ao ((fL_announce_h D i 0 g).2.2), zMo K am ((fX5_announce I R (nI i) 0).2.1) ((fX5_announce I R (nI i) 0).2.2)]) (br := [zZo K az Z W, zSC K n sc Cs, zCo K ak F O, zCo K tk Ft Ot, zCa K tc Tc]) [0, 2, 3, 9, 8] [1, 4, 5, 6, 7] (zsp rfl rfl rfl) ?_
        exact next n f so sc X Z W ((fL_announce_h D i 0 g).2.1) Cs F O Ft Ot Tc ((fX5_announce I R (nI i) 0).2.1) ((fX5_announce I R (nI i) 0).2.2) ((fL_announce_h D i 0 g).2.2) (q_announce_h hS hi i01).2 hf1 hf2
      · refine z_tsI B 556 dL_law_39 (by decide) (by decide) rfl rfl ?_
        refine z_to (bc := [zXo ax (az 0) sa (ak 0) (tk 0) (tc 0) X, zSa K sa f, zSO n so sc D, zOu K ao g, zMo K am I R]) (br := [zZo K az Z W, zSC K n sc Cs, zCo K ak F O, zCo K tk Ft Ot, zCa K tc Tc]) [0, 2, 3, 9, 8] [1, 4, 5, 6, 7] (zsp rfl rfl rfl) ?_
        refine aL_announce_h1 l hl K ax (az 0) sa (ak 0) (tk 0) (tc 0) X f n so sc D i ao g am I R x2 hy2 (by omega) hi (z_fcl hf1 hi (by omega)) (hD3 i hi) h5 h6 hon ([zZo K az Z W, zSC K n sc Cs, zCo K ak F O, zCo K tk Ft Ot, zCa K tc Tc] : zB).flatten (q_announce_h hS hi i11).1 B hX hbl hbA (r_hi hL h4L (k := 1) (by decide)) hv1 (r_hi hL h4L (k := 2) (by decide)) hv2 (by omega) (by omega) ?_
        refine z_fro (bs := zFu K ax sa ao az ak tk tc am n f so sc X Z W ((fL_announce_h D i 1 g).2.1) Cs F O Ft Ot Tc ((fX5_announce I R (nI i) 1).2.1) ((fX5_announce I R (nI i) 1).2.2) ((fL_announce_h D i 1 g).2.2)) (bc := [zXo ax (az 0) sa (ak 0) (tk 0) (tc 0) X, zSa K sa f, zSO n so sc ((fL_announce_h D i 1 g).2.1), zOu K ao ((fL_announce_h D i 1 g).2.2), zMo K am ((fX5_announce I R (nI i) 1).2.1) ((fX5_announce I R (nI i) 1).2.2)]) (br := [zZo K az Z W, zSC K n sc Cs, zCo K ak F O, zCo K tk Ft Ot, zCa K tc Tc]) [0, 2, 3, 9, 8] [1, 4, 5, 6, 7] (zsp rfl rfl rfl) ?_
        exact next n f so sc X Z W ((fL_announce_h D i 1 g).2.1) Cs F O Ft Ot Tc ((fX5_announce I R (nI i) 1).2.1) ((fX5_announce I R (nI i) 1).2.2) ((fL_announce_h D i 1 g).2.2) (q_announce_h hS hi i11).2 hf1 hf2
    · have hfn := miss hm
      by_cases hy2 : x2 = 0
      · refine z_tsI B 556 dL_law_39 (by decide) (by decide) rfl rfl ?_
        refine z_to (bc := [zXo ax (az 0) sa (ak 0) (tk 0) (tc 0) X, zSa K sa f, zOu K ao g, zMo K am I R]) (br := [zZo K az Z W, zSO n so sc D, zSC K n sc Cs, zCo K ak F O, zCo K tk Ft Ot, zCa K tc Tc]) [0, 2, 9, 8] [1, 3, 4, 5, 6, 7] (zsp rfl rfl rfl) ?_
        refine aL_announce_m0 l hl K ax (az 0) sa (ak 0) (tk 0) (tc 0) X f x1 ao g am I R x2 hy2 hfn h5 h6 hon ([zZo K az Z W, zSO n so sc D, zSC K n sc Cs, zCo K ak F O, zCo K tk Ft Ot, zCa K tc Tc] : zB).flatten (q_announce_m hS hm).1 B hX hbl hbA (r_hi hL h4L (k := 1) (by decide)) hv1 (r_hi hL h4L (k := 2) (by decide)) hv2 (by omega) (by omega) ?_
        refine z_fro (bs := zFu K ax sa ao az ak tk tc am n f so sc X Z W D Cs F O Ft Ot Tc ((fX5_announce I R x1 0).2.1) ((fX5_announce I R x1 0).2.2) g) (bc := [zXo ax (az 0) sa (ak 0) (tk 0) (tc 0) X, zSa K sa f, zOu K ao g, zMo K am ((fX5_announce I R x1 0).2.1) ((fX5_announce I R x1 0).2.2)]) (br := [zZo K az Z W, zSO n so sc D, zSC K n sc Cs, zCo K ak F O, zCo K tk Ft Ot, zCa K tc Tc]) [0, 2, 9, 8] [1, 3, 4, 5, 6, 7] (zsp rfl rfl rfl) ?_
        exact next n f so sc X Z W D Cs F O Ft Ot Tc ((fX5_announce I R x1 0).2.1) ((fX5_announce I R x1 0).2.2) g (q_announce_m hS hm).2 hf1 hf2
      · refine z_tsI B 556 dL_law_39 (by decide) (by decide) rfl rfl ?_
        refine z_to (bc := [zXo ax (az 0) sa (ak 0) (tk 0) (tc 0) X, zSa K sa f, zOu K ao g, zMo K am I R]) (br := [zZo K az Z W, zSO n so sc D, zSC K n sc Cs, zCo K ak F O, zCo K tk Ft Ot, zCa K tc Tc]) [0, 2, 9, 8] [1, 3, 4, 5, 6, 7] (zsp rfl rfl rfl) ?_
        refine aL_announce_m1 l hl K ax (az 0) sa (ak 0) (tk 0) (tc 0) X f x1 ao g am I R x2 hy2 hfn h5 h6 hon ([zZo K az Z W, zSO n so sc D, zSC K n sc Cs, zCo K ak F O, zCo K tk Ft Ot, zCa K tc Tc] : zB).flatten (q_announce_m hS hm).1 B hX hbl hbA (r_hi hL h4L (k := 1) (by decide)) hv1 (r_hi hL h4L (k := 2) (by decide)) hv2 (by omega) (by omega) ?_
        refine z_fro (bs := zFu K ax sa ao az ak tk tc am n f so sc X Z W D Cs F O Ft Ot Tc ((fX5_announce I R x1 1).2.1) ((fX5_announce I R x1 1).2.2) g) (bc := [zXo ax (az 0) sa (ak 0) (tk 0) (tc 0) X, zSa K sa f, zOu K ao g, zMo K am ((fX5_announce I R x1 1).2.1) ((fX5_announce I R x1 1).2.2)]) (br := [zZo K az Z W, zSO n so sc D, zSC K n sc Cs, zCo K ak F O, zCo K tk Ft Ot, zCa K tc Tc]) [0, 2, 9, 8] [1, 3, 4, 5, 6, 7] (zsp rfl rfl rfl) ?_
        exact next n f so sc X Z W D Cs F O Ft Ot Tc ((fX5_announce I R x1 1).2.1) ((fX5_announce I R x1 1).2.2) g (q_announce_m hS hm).2 hf1 hf2
set_option maxHeartbeats 8000000 in
set_option maxRecDepth 100000 in
theorem law_op8 (l : Launch) (hl : l.stackTraces = false) {K : zK} {p : Program} {e : Env} {s : State} {m : MethodId} {below : List Frame} {meth : Method} {c : Code} {A : Nat → Prop} {Q : State → Prop} {ret9 : Option FieldType} {nm9 : String} {tb9 : List ExceptionTableEntry} {args : Array Value} {b L ii k9 n9 : Nat} {xs : Nat → Int32} (B : zF K p l s m args meth c A cL_law 7 RL nm9 wsL_law ret9 tb9) (hX : va_X b L xs s s.heap) (hbl : b < s.heap.size) (hbA : ¬ A b) (hL : L ≤ 2048) (h4L : ii + 4 ≤ L) (hk9 : k9 + 16 ≤ 601024) (hn9 : n9 + 512 ≤ 7293034) {ax sa ao : Nat} {az ak tk tc am : Nat → Nat}
    (next : ∀ (n : Nat) (f : Nat → Option Nat) (so : Nat → Nat) (sc : Nat → Nat → Nat) (X : Nat → Int32) (Z : Nat → Nat → Int32) (W : Nat → Int32) (D : Nat → Nat → Int32) (Cs : Nat → Nat → Nat → Int32) (F : Nat → Int32) (O : Nat → Int32) (Ft : Nat → Int32) (Ot : Nat → Int32) (Tc : Nat → Nat → Int32) (I : Nat → Int32) (R : Nat → Nat → Int32) (g : Nat → Int64), rR n X Z W D Cs O I R → (∀ a, a < n → f a = some (so a)) → (∀ a, n ≤ a → a < 4 → f a = none) → zW K p l e zR s m args below meth c A Q (k9 + 16) (n9 + 512) (zFu K ax sa ao az ak tk tc am n f so sc X Z W D Cs F O Ft Ot Tc I R g) [(0, .ref b), (1, .ref ax), (2, .ref (am 0)), (3, .ref ao), (4, .int (nI ii))] [] 1428) : ∀ (n : Nat) (f : Nat → Option Nat) (so : Nat → Nat) (sc : Nat → Nat → Nat) (X : Nat → Int32) (Z : Nat → Nat → Int32) (W : Nat → Int32) (D : Nat → Nat → Int32) (Cs : Nat → Nat → Nat → Int32) (F : Nat → Int32) (O : Nat → Int32) (Ft : Nat → Int32) (Ot : Nat → Int32) (Tc : Nat → Nat → Int32) (I : Nat → Int32) (R : Nat → Nat → Int32) (g : Nat → Int64), rR n X Z W D Cs O I R → (∀ a, a < n → f a = some (so a)) → (∀ a, n ≤ a → a < 4 → f a = none) → zW K p l e zR s m args below meth c A Q k9 n9 (zFu K ax sa ao az ak tk tc am n f so sc X Z W D Cs F O Ft Ot Tc I R g) [(0, .ref b), (1, .ref ax), (2, .ref (am 0)), (3, .ref ao), (4, .int (nI ii))] [.int (nI 8)] 39 := by
  intro n f so sc X Z W D Cs F O Ft Ot Tc I R g hS hf1 hf2
  have hn4 := hS.1.2.1
  have h5 : ¬ (I 5) < 0 := by rw [hS.1.1]; exact nI_pos (by omega)
  have h6 : (I 5).toNatClampNeg ≤ 4 := by rw [hS.1.1, nI_clamp (by omega)]; exact hn4
  have hZ := hS.2.1.zw
  have hC := hS.2.2.2.1.1
  have h4 := hS.2.1.2.2.2
  have hW4 : (W 4) = 0 ∨ (W 4) = 1 := by rw [hS.2.1.2.2.1]; exact h4
  have h16 := hS.2.2.1.2.2.2.2.2.2.2.2.2.2.2
  have hO5 : (O 5) = 0 ∨ (O 5) = 1 := by rw [hS.2.2.1.2.2.2.2.2.2.2.2.2.2.1]; exact h16
  have hX2 := hS.2.2.1.1
  have hon := hS.1.2.2.2
  have hD3 : ∀ i, i < n → (D i 3) = 0 ∨ (D i 3) = 1 := fun i hi => by rw [(hS.1.2.2.1 i hi).2.2.1]; exact hon i
  have i01 : (0 : Int32) = 0 ∨ (0 : Int32) = 1 := Or.inl rfl
  have i11 : (1 : Int32) = 0 ∨ (1 : Int32) = 1 := Or.inr rfl
  obtain ⟨x1, hv1⟩ : ∃ x1, xs (nI ii + 1).toNatClampNeg = x1 := ⟨_, rfl⟩
  obtain ⟨x2, hv2⟩ : ∃ x2, xs (nI ii + 2).toNatClampNeg = x2 := ⟨_, rfl⟩
  obtain ⟨x3, hv3⟩ : ∃ x3, xs (nI ii + 3).toNatClampNeg = x3 := ⟨_, rfl⟩
  have site : (∃ i, i < n ∧ x1 = nI i) ∨ (∀ i, i < n → x1 ≠ nI i) := by
    by_cases h : ∃ i, i < n ∧ x1 = nI i
    · exact Or.inl h
    · exact Or.inr fun i hi q => h ⟨i, hi, q⟩
  have near : fX4_near n D x1 = none ∨ ∃ i, i < n ∧ fX4_near n D x1 = some i := z_nearLt n D x1
  have miss : (∀ i, i < n → x1 ≠ nI i) → x1 < 4 → ¬ x1 < 0 → f x1.toNatClampNeg = none := by
    intro hm q1 q2
    obtain ⟨j, hj, rfl⟩ := nI_of q2
    have hj4 : j < 4 := (nI_ltI (b := 4) hj (by decide)).mp q1
    rw [nI_clamp hj]
    exact hf2 j (Nat.le_of_not_lt fun q => hm j q rfl) hj4
  · rcases near with hN | ⟨i, hi, hN⟩
    · refine z_tsI B 647 dL_law_39 (by decide) (by decide) rfl rfl ?_
      refine z_to (bc := [zXo ax (az 0) sa (ak 0) (tk 0) (tc 0) X, zSa K sa f, zSO n so sc D, zOu K ao g, zMo K am I R]) (br := [zZo K az Z W, zSC K n sc Cs, zCo K ak F O, zCo K tk Ft Ot, zCa K tc Tc]) [0, 2, 3, 9, 8] [1, 4, 5, 6, 7] (zsp rfl rfl rfl) ?_
      refine aL_siteFor_m l hl K ax (az 0) sa (ak 0) (tk 0) (tc 0) X f n so sc D x1 ao g am I R hf1 hf2 hN h5 h6 ([zZo K az Z W, zSC K n sc Cs, zCo K ak F O, zCo K tk Ft Ot, zCa K tc Tc] : zB).flatten (q_siteFor_m hS hN).1 B hX hbl hbA (r_hi hL h4L (k := 1) (by decide)) hv1 (by omega) (by omega) ?_
      refine z_fro (bs := zFu K ax sa ao az ak tk tc am n f so sc X Z W D Cs F O Ft Ot Tc ((fX5_siteFor I R x1).2) R ((fL_siteFor_m D x1 g).2)) (bc := [zXo ax (az 0) sa (ak 0) (tk 0) (tc 0) X, zSa K sa f, zSO n so sc D, zOu K ao ((fL_siteFor_m D x1 g).2), zMo K am ((fX5_siteFor I R x1).2) R]) (br := [zZo K az Z W, zSC K n sc Cs, zCo K ak F O, zCo K tk Ft Ot, zCa K tc Tc]) [0, 2, 3, 9, 8] [1, 4, 5, 6, 7] (zsp rfl rfl rfl) ?_
      exact next n f so sc X Z W D Cs F O Ft Ot Tc ((fX5_siteFor I R x1).2) R ((fL_siteFor_m D x1 g).2) (q_siteFor_m hS hN).2 hf1 hf2
    · refine z_tsI B 647 dL_law_39 (by decide) (by decide) rfl rfl ?_
      refine z_to (bc := [zXo ax (az 0) sa (ak 0) (tk 0) (tc 0) X, zSa K sa f, zSO n so sc D, zOu K ao g, zMo K am I R]) (br := [zZo K az Z W, zSC K n sc Cs, zCo K ak F O, zCo K tk Ft Ot, zCa K tc Tc]) [0, 2, 3, 9, 8] [1, 4, 5, 6, 7] (zsp rfl rfl rfl) ?_
      refine aL_siteFor_h l hl K ax (az 0) sa (ak 0) (tk 0) (tc 0) X f n so sc D i x1 ao g am I R hf1 hf2 hi hN h5 h6 ([zZo K az Z W, zSC K n sc Cs, zCo K ak F O, zCo K tk Ft Ot, zCa K tc Tc] : zB).flatten (q_siteFor_h hS hN).1 B hX hbl hbA (r_hi hL h4L (k := 1) (by decide)) hv1 (by omega) (by omega) ?_
      refine z_fro (bs := zFu K ax sa ao az ak tk tc am n f so sc X Z W D Cs F O Ft Ot Tc ((fX5_siteFor I R x1).2) R ((fL_siteFor_h D i x1 g).2)) (bc := [zXo ax (az 0) sa (ak 0) (tk 0) (tc 0) X, zSa K sa f, zSO n so sc D, zOu K ao ((fL_siteFor_h D i x1 g).2), zMo K am ((fX5_siteFor I R x1).2) R]) (br := [zZo K az Z W, zSC K n sc Cs, zCo K ak F O, zCo K tk Ft Ot, zCa K tc Tc]) [0, 2, 3, 9, 8] [1, 4, 5, 6, 7] (zsp rfl rfl rfl) ?_
      exact next n f so sc X Z W D Cs F O Ft Ot Tc ((fX5_siteFor I R x1).2) R ((fL_siteFor_h D i x1 g).2) (q_siteFor_h hS hN).2 hf1 hf2
set_option maxHeartbeats 8000000 in
set_option maxRecDepth 100000 in
theorem law_op9 (l : Launch) (hl : l.stackTraces = false) {K : zK} {p : Program} {e : Env} {s : State} {m : MethodId} {below : List Frame} {meth : Method} {c : Code} {A : Nat → Prop} {Q : State → Prop} {ret9 : Option FieldType} {nm9 : String} {tb9 : List ExceptionTableEntry} {args : Array Value} {b L ii k9 n9 : Nat} {xs : Nat → Int32} (B : zF K p l s m args meth c A cL_law 7 RL nm9 wsL_law ret9 tb9) (hX : va_X b L xs s s.heap) (hbl : b < s.heap.size) (hbA : ¬ A b) (hL : L ≤ 2048) (h4L : ii + 4 ≤ L) (hk9 : k9 + 16 ≤ 601024) (hn9 : n9 + 512 ≤ 7293034) {ax sa ao : Nat} {az ak tk tc am : Nat → Nat}
    (next : ∀ (n : Nat) (f : Nat → Option Nat) (so : Nat → Nat) (sc : Nat → Nat → Nat) (X : Nat → Int32) (Z : Nat → Nat → Int32) (W : Nat → Int32) (D : Nat → Nat → Int32) (Cs : Nat → Nat → Nat → Int32) (F : Nat → Int32) (O : Nat → Int32) (Ft : Nat → Int32) (Ot : Nat → Int32) (Tc : Nat → Nat → Int32) (I : Nat → Int32) (R : Nat → Nat → Int32) (g : Nat → Int64), rR n X Z W D Cs O I R → (∀ a, a < n → f a = some (so a)) → (∀ a, n ≤ a → a < 4 → f a = none) → zW K p l e zR s m args below meth c A Q (k9 + 16) (n9 + 512) (zFu K ax sa ao az ak tk tc am n f so sc X Z W D Cs F O Ft Ot Tc I R g) [(0, .ref b), (1, .ref ax), (2, .ref (am 0)), (3, .ref ao), (4, .int (nI ii))] [] 1428) : ∀ (n : Nat) (f : Nat → Option Nat) (so : Nat → Nat) (sc : Nat → Nat → Nat) (X : Nat → Int32) (Z : Nat → Nat → Int32) (W : Nat → Int32) (D : Nat → Nat → Int32) (Cs : Nat → Nat → Nat → Int32) (F : Nat → Int32) (O : Nat → Int32) (Ft : Nat → Int32) (Ot : Nat → Int32) (Tc : Nat → Nat → Int32) (I : Nat → Int32) (R : Nat → Nat → Int32) (g : Nat → Int64), rR n X Z W D Cs O I R → (∀ a, a < n → f a = some (so a)) → (∀ a, n ≤ a → a < 4 → f a = none) → zW K p l e zR s m args below meth c A Q k9 n9 (zFu K ax sa ao az ak tk tc am n f so sc X Z W D Cs F O Ft Ot Tc I R g) [(0, .ref b), (1, .ref ax), (2, .ref (am 0)), (3, .ref ao), (4, .int (nI ii))] [.int (nI 9)] 39 := by
  intro n f so sc X Z W D Cs F O Ft Ot Tc I R g hS hf1 hf2
  have hn4 := hS.1.2.1
  have h5 : ¬ (I 5) < 0 := by rw [hS.1.1]; exact nI_pos (by omega)
  have h6 : (I 5).toNatClampNeg ≤ 4 := by rw [hS.1.1, nI_clamp (by omega)]; exact hn4
  have hZ := hS.2.1.zw
  have hC := hS.2.2.2.1.1
  have h4 := hS.2.1.2.2.2
  have hW4 : (W 4) = 0 ∨ (W 4) = 1 := by rw [hS.2.1.2.2.1]; exact h4
  have h16 := hS.2.2.1.2.2.2.2.2.2.2.2.2.2.2
  have hO5 : (O 5) = 0 ∨ (O 5) = 1 := by rw [hS.2.2.1.2.2.2.2.2.2.2.2.2.2.1]; exact h16
  have hX2 := hS.2.2.1.1
  have hon := hS.1.2.2.2
  have hD3 : ∀ i, i < n → (D i 3) = 0 ∨ (D i 3) = 1 := fun i hi => by rw [(hS.1.2.2.1 i hi).2.2.1]; exact hon i
  have i01 : (0 : Int32) = 0 ∨ (0 : Int32) = 1 := Or.inl rfl
  have i11 : (1 : Int32) = 0 ∨ (1 : Int32) = 1 := Or.inr rfl
  obtain ⟨x1, hv1⟩ : ∃ x1, xs (nI ii + 1).toNatClampNeg = x1 := ⟨_, rfl⟩
  obtain ⟨x2, hv2⟩ : ∃ x2, xs (nI ii + 2).toNatClampNeg = x2 := ⟨_, rfl⟩
  obtain ⟨x3, hv3⟩ : ∃ x3, xs (nI ii + 3).toNatClampNeg = x3 := ⟨_, rfl⟩
  have site : (∃ i, i < n ∧ x1 = nI i) ∨ (∀ i, i < n → x1 ≠ nI i) := by
    by_cases h : ∃ i, i < n ∧ x1 = nI i
    · exact Or.inl h
    · exact Or.inr fun i hi q => h ⟨i, hi, q⟩
  have near : fX4_near n D x1 = none ∨ ∃ i, i < n ∧ fX4_near n D x1 = some i := z_nearLt n D x1
  have miss : (∀ i, i < n → x1 ≠ nI i) → x1 < 4 → ¬ x1 < 0 → f x1.toNatClampNeg = none := by
    intro hm q1 q2
    obtain ⟨j, hj, rfl⟩ := nI_of q2
    have hj4 : j < 4 := (nI_ltI (b := 4) hj (by decide)).mp q1
    rw [nI_clamp hj]
    exact hf2 j (Nat.le_of_not_lt fun q => hm j q rfl) hj4
  · rcases site with ⟨i, hi, ei⟩ | hm
    · rw [ei] at hv1
      refine z_tsI B 703 dL_law_39 (by decide) (by decide) rfl rfl ?_
      refine z_perm (bs' := zFi K ax sa ao az ak tk tc am n f so sc X Z W D Cs i (Cs i) F O Ft Ot Tc I R g) (zFi_of hi) ?_
      refine z_to (bc := [zXo ax (az 0) sa (ak 0) (tk 0) (tc 0) X, zSa K sa f, zSO n so sc D, zCa K (sc i) (Cs i), zOu K ao g, zMo K am I R]) (br := [zZo K az Z W, zCo K ak F O, zCo K tk Ft Ot, zCa K tc Tc, zSX K n sc Cs i]) [0, 2, 3, 4, 9, 8] [1, 5, 6, 7, 10] (zsp rfl rfl rfl) ?_
      refine aL_flush_h l hl K ax (az 0) sa (ak 0) (tk 0) (tc 0) X f n so sc D i (Cs i) x2 ao g am I R (by omega) hi (z_fcl hf1 hi (by omega)) h5 h6 ([zZo K az Z W, zCo K ak F O, zCo K tk Ft Ot, zCa K tc Tc, zSX K n sc Cs i] : zB).flatten (q_flush_h hS hi).1 B hX hbl hbA (r_hi hL h4L (k := 1) (by decide)) hv1 (r_hi hL h4L (k := 2) (by decide)) hv2 (by omega) (by omega) ?_
      refine z_fro (bs := zFi K ax sa ao az ak tk tc am n f so sc X Z W D Cs i ((fL_flush_h D i (Cs i) x2 g).2.1) F O Ft Ot Tc ((fX5_flush I R (nI i) x2).2.1) ((fX5_flush I R (nI i) x2).2.2) ((fL_flush_h D i (Cs i) x2 g).2.2)) (bc := [zXo ax (az 0) sa (ak 0) (tk 0) (tc 0) X, zSa K sa f, zSO n so sc D, zCa K (sc i) ((fL_flush_h D i (Cs i) x2 g).2.1), zOu K ao ((fL_flush_h D i (Cs i) x2 g).2.2), zMo K am ((fX5_flush I R (nI i) x2).2.1) ((fX5_flush I R (nI i) x2).2.2)]) (br := [zZo K az Z W, zCo K ak F O, zCo K tk Ft Ot, zCa K tc Tc, zSX K n sc Cs i]) [0, 2, 3, 4, 9, 8] [1, 5, 6, 7, 10] (zsp rfl rfl rfl) ?_
      refine z_perm (bs' := zFu K ax sa ao az ak tk tc am n f so sc X Z W D (va_up Cs i ((fL_flush_h D i (Cs i) x2 g).2.1)) F O Ft Ot Tc ((fX5_flush I R (nI i) x2).2.1) ((fX5_flush I R (nI i) x2).2.2) ((fL_flush_h D i (Cs i) x2 g).2.2)) (zFi_to hi) ?_
      exact next n f so sc X Z W D (va_up Cs i ((fL_flush_h D i (Cs i) x2 g).2.1)) F O Ft Ot Tc ((fX5_flush I R (nI i) x2).2.1) ((fX5_flush I R (nI i) x2).2.2) ((fL_flush_h D i (Cs i) x2 g).2.2) (q_flush_h hS hi).2 hf1 hf2
    · have hfn := miss hm
      refine z_tsI B 703 dL_law_39 (by decide) (by decide) rfl rfl ?_
      refine z_to (bc := [zXo ax (az 0) sa (ak 0) (tk 0) (tc 0) X, zSa K sa f, zOu K ao g, zMo K am I R]) (br := [zZo K az Z W, zSO n so sc D, zSC K n sc Cs, zCo K ak F O, zCo K tk Ft Ot, zCa K tc Tc]) [0, 2, 9, 8] [1, 3, 4, 5, 6, 7] (zsp rfl rfl rfl) ?_
      refine aL_flush_m l hl K ax (az 0) sa (ak 0) (tk 0) (tc 0) X f x1 x2 ao g am I R hfn h5 h6 ([zZo K az Z W, zSO n so sc D, zSC K n sc Cs, zCo K ak F O, zCo K tk Ft Ot, zCa K tc Tc] : zB).flatten (q_flush_m hS hm).1 B hX hbl hbA (r_hi hL h4L (k := 1) (by decide)) hv1 (r_hi hL h4L (k := 2) (by decide)) hv2 (by omega) (by omega) ?_
      refine z_fro (bs := zFu K ax sa ao az ak tk tc am n f so sc X Z W D Cs F O Ft Ot Tc ((fX5_flush I R x1 x2).2.1) ((fX5_flush I R x1 x2).2.2) g) (bc := [zXo ax (az 0) sa (ak 0) (tk 0) (tc 0) X, zSa K sa f, zOu K ao g, zMo K am ((fX5_flush I R x1 x2).2.1) ((fX5_flush I R x1 x2).2.2)]) (br := [zZo K az Z W, zSO n so sc D, zSC K n sc Cs, zCo K ak F O, zCo K tk Ft Ot, zCa K tc Tc]) [0, 2, 9, 8] [1, 3, 4, 5, 6, 7] (zsp rfl rfl rfl) ?_
      exact next n f so sc X Z W D Cs F O Ft Ot Tc ((fX5_flush I R x1 x2).2.1) ((fX5_flush I R x1 x2).2.2) g (q_flush_m hS hm).2 hf1 hf2
set_option maxHeartbeats 8000000 in
set_option maxRecDepth 100000 in
theorem law_op10 (l : Launch) (hl : l.stackTraces = false) {K : zK} {p : Program} {e : Env} {s : State} {m : MethodId} {below : List Frame} {meth : Method} {c : Code} {A : Nat → Prop} {Q : State → Prop} {ret9 : Option FieldType} {nm9 : String} {tb9 : List ExceptionTableEntry} {args : Array Value} {b L ii k9 n9 : Nat} {xs : Nat → Int32} (B : zF K p l s m args meth c A cL_law 7 RL nm9 wsL_law ret9 tb9) (hX : va_X b L xs s s.heap) (hbl : b < s.heap.size) (hbA : ¬ A b) (hL : L ≤ 2048) (h4L : ii + 4 ≤ L) (hk9 : k9 + 16 ≤ 601024) (hn9 : n9 + 512 ≤ 7293034) {ax sa ao : Nat} {az ak tk tc am : Nat → Nat}
    (next : ∀ (n : Nat) (f : Nat → Option Nat) (so : Nat → Nat) (sc : Nat → Nat → Nat) (X : Nat → Int32) (Z : Nat → Nat → Int32) (W : Nat → Int32) (D : Nat → Nat → Int32) (Cs : Nat → Nat → Nat → Int32) (F : Nat → Int32) (O : Nat → Int32) (Ft : Nat → Int32) (Ot : Nat → Int32) (Tc : Nat → Nat → Int32) (I : Nat → Int32) (R : Nat → Nat → Int32) (g : Nat → Int64), rR n X Z W D Cs O I R → (∀ a, a < n → f a = some (so a)) → (∀ a, n ≤ a → a < 4 → f a = none) → zW K p l e zR s m args below meth c A Q (k9 + 16) (n9 + 512) (zFu K ax sa ao az ak tk tc am n f so sc X Z W D Cs F O Ft Ot Tc I R g) [(0, .ref b), (1, .ref ax), (2, .ref (am 0)), (3, .ref ao), (4, .int (nI ii))] [] 1428) : ∀ (n : Nat) (f : Nat → Option Nat) (so : Nat → Nat) (sc : Nat → Nat → Nat) (X : Nat → Int32) (Z : Nat → Nat → Int32) (W : Nat → Int32) (D : Nat → Nat → Int32) (Cs : Nat → Nat → Nat → Int32) (F : Nat → Int32) (O : Nat → Int32) (Ft : Nat → Int32) (Ot : Nat → Int32) (Tc : Nat → Nat → Int32) (I : Nat → Int32) (R : Nat → Nat → Int32) (g : Nat → Int64), rR n X Z W D Cs O I R → (∀ a, a < n → f a = some (so a)) → (∀ a, n ≤ a → a < 4 → f a = none) → zW K p l e zR s m args below meth c A Q k9 n9 (zFu K ax sa ao az ak tk tc am n f so sc X Z W D Cs F O Ft Ot Tc I R g) [(0, .ref b), (1, .ref ax), (2, .ref (am 0)), (3, .ref ao), (4, .int (nI ii))] [.int (nI 10)] 39 := by
  intro n f so sc X Z W D Cs F O Ft Ot Tc I R g hS hf1 hf2
  have hn4 := hS.1.2.1
  have h5 : ¬ (I 5) < 0 := by rw [hS.1.1]; exact nI_pos (by omega)
  have h6 : (I 5).toNatClampNeg ≤ 4 := by rw [hS.1.1, nI_clamp (by omega)]; exact hn4
  have hZ := hS.2.1.zw
  have hC := hS.2.2.2.1.1
  have h4 := hS.2.1.2.2.2
  have hW4 : (W 4) = 0 ∨ (W 4) = 1 := by rw [hS.2.1.2.2.1]; exact h4
  have h16 := hS.2.2.1.2.2.2.2.2.2.2.2.2.2.2
  have hO5 : (O 5) = 0 ∨ (O 5) = 1 := by rw [hS.2.2.1.2.2.2.2.2.2.2.2.2.2.1]; exact h16
  have hX2 := hS.2.2.1.1
  have hon := hS.1.2.2.2
  have hD3 : ∀ i, i < n → (D i 3) = 0 ∨ (D i 3) = 1 := fun i hi => by rw [(hS.1.2.2.1 i hi).2.2.1]; exact hon i
  have i01 : (0 : Int32) = 0 ∨ (0 : Int32) = 1 := Or.inl rfl
  have i11 : (1 : Int32) = 0 ∨ (1 : Int32) = 1 := Or.inr rfl
  obtain ⟨x1, hv1⟩ : ∃ x1, xs (nI ii + 1).toNatClampNeg = x1 := ⟨_, rfl⟩
  obtain ⟨x2, hv2⟩ : ∃ x2, xs (nI ii + 2).toNatClampNeg = x2 := ⟨_, rfl⟩
  obtain ⟨x3, hv3⟩ : ∃ x3, xs (nI ii + 3).toNatClampNeg = x3 := ⟨_, rfl⟩
  have site : (∃ i, i < n ∧ x1 = nI i) ∨ (∀ i, i < n → x1 ≠ nI i) := by
    by_cases h : ∃ i, i < n ∧ x1 = nI i
    · exact Or.inl h
    · exact Or.inr fun i hi q => h ⟨i, hi, q⟩
  have near : fX4_near n D x1 = none ∨ ∃ i, i < n ∧ fX4_near n D x1 = some i := z_nearLt n D x1
  have miss : (∀ i, i < n → x1 ≠ nI i) → x1 < 4 → ¬ x1 < 0 → f x1.toNatClampNeg = none := by
    intro hm q1 q2
    obtain ⟨j, hj, rfl⟩ := nI_of q2
    have hj4 : j < 4 := (nI_ltI (b := 4) hj (by decide)).mp q1
    rw [nI_clamp hj]
    exact hf2 j (Nat.le_of_not_lt fun q => hm j q rfl) hj4
  · refine z_tsI B 778 dL_law_39 (by decide) (by decide) rfl rfl ?_
    refine z_to (bc := [zXo ax (az 0) sa (ak 0) (tk 0) (tc 0) X, zOu K ao g, zMo K am I R]) (br := [zZo K az Z W, zSa K sa f, zSO n so sc D, zSC K n sc Cs, zCo K ak F O, zCo K tk Ft Ot, zCa K tc Tc]) [0, 9, 8] [1, 2, 3, 4, 5, 6, 7] (zsp rfl rfl rfl) ?_
    refine aL_pass l hl K ax (az 0) sa (ak 0) (tk 0) (tc 0) X x1 ao g am I R ([zZo K az Z W, zSa K sa f, zSO n so sc D, zSC K n sc Cs, zCo K ak F O, zCo K tk Ft Ot, zCa K tc Tc] : zB).flatten (q_pass hS).1 B hX hbl hbA (r_hi hL h4L (k := 1) (by decide)) hv1 (by omega) (by omega) ?_
    refine z_fro (bs := zFu K ax sa ao az ak tk tc am n f so sc ((fL_pass X x1 g).2.1) Z W D Cs F O Ft Ot Tc ((fX5_pass I R x1).2) R ((fL_pass X x1 g).2.2)) (bc := [zXo ax (az 0) sa (ak 0) (tk 0) (tc 0) ((fL_pass X x1 g).2.1), zOu K ao ((fL_pass X x1 g).2.2), zMo K am ((fX5_pass I R x1).2) R]) (br := [zZo K az Z W, zSa K sa f, zSO n so sc D, zSC K n sc Cs, zCo K ak F O, zCo K tk Ft Ot, zCa K tc Tc]) [0, 9, 8] [1, 2, 3, 4, 5, 6, 7] (zsp rfl rfl rfl) ?_
    exact next n f so sc ((fL_pass X x1 g).2.1) Z W D Cs F O Ft Ot Tc ((fX5_pass I R x1).2) R ((fL_pass X x1 g).2.2) (q_pass hS).2 hf1 hf2
set_option maxHeartbeats 8000000 in
set_option maxRecDepth 100000 in
theorem law_op11 (l : Launch) (hl : l.stackTraces = false) {K : zK} {p : Program} {e : Env} {s : State} {m : MethodId} {below : List Frame} {meth : Method} {c : Code} {A : Nat → Prop} {Q : State → Prop} {ret9 : Option FieldType} {nm9 : String} {tb9 : List ExceptionTableEntry} {args : Array Value} {b L ii k9 n9 : Nat} {xs : Nat → Int32} (B : zF K p l s m args meth c A cL_law 7 RL nm9 wsL_law ret9 tb9) (hX : va_X b L xs s s.heap) (hbl : b < s.heap.size) (hbA : ¬ A b) (hL : L ≤ 2048) (h4L : ii + 4 ≤ L) (hk9 : k9 + 16 ≤ 601024) (hn9 : n9 + 512 ≤ 7293034) {ax sa ao : Nat} {az ak tk tc am : Nat → Nat}
    (next : ∀ (n : Nat) (f : Nat → Option Nat) (so : Nat → Nat) (sc : Nat → Nat → Nat) (X : Nat → Int32) (Z : Nat → Nat → Int32) (W : Nat → Int32) (D : Nat → Nat → Int32) (Cs : Nat → Nat → Nat → Int32) (F : Nat → Int32) (O : Nat → Int32) (Ft : Nat → Int32) (Ot : Nat → Int32) (Tc : Nat → Nat → Int32) (I : Nat → Int32) (R : Nat → Nat → Int32) (g : Nat → Int64), rR n X Z W D Cs O I R → (∀ a, a < n → f a = some (so a)) → (∀ a, n ≤ a → a < 4 → f a = none) → zW K p l e zR s m args below meth c A Q (k9 + 16) (n9 + 512) (zFu K ax sa ao az ak tk tc am n f so sc X Z W D Cs F O Ft Ot Tc I R g) [(0, .ref b), (1, .ref ax), (2, .ref (am 0)), (3, .ref ao), (4, .int (nI ii))] [] 1428) : ∀ (n : Nat) (f : Nat → Option Nat) (so : Nat → Nat) (sc : Nat → Nat → Nat) (X : Nat → Int32) (Z : Nat → Nat → Int32) (W : Nat → Int32) (D : Nat → Nat → Int32) (Cs : Nat → Nat → Nat → Int32) (F : Nat → Int32) (O : Nat → Int32) (Ft : Nat → Int32) (Ot : Nat → Int32) (Tc : Nat → Nat → Int32) (I : Nat → Int32) (R : Nat → Nat → Int32) (g : Nat → Int64), rR n X Z W D Cs O I R → (∀ a, a < n → f a = some (so a)) → (∀ a, n ≤ a → a < 4 → f a = none) → zW K p l e zR s m args below meth c A Q k9 n9 (zFu K ax sa ao az ak tk tc am n f so sc X Z W D Cs F O Ft Ot Tc I R g) [(0, .ref b), (1, .ref ax), (2, .ref (am 0)), (3, .ref ao), (4, .int (nI ii))] [.int (nI 11)] 39 := by
  intro n f so sc X Z W D Cs F O Ft Ot Tc I R g hS hf1 hf2
  have hn4 := hS.1.2.1
  have h5 : ¬ (I 5) < 0 := by rw [hS.1.1]; exact nI_pos (by omega)
  have h6 : (I 5).toNatClampNeg ≤ 4 := by rw [hS.1.1, nI_clamp (by omega)]; exact hn4
  have hZ := hS.2.1.zw
  have hC := hS.2.2.2.1.1
  have h4 := hS.2.1.2.2.2
  have hW4 : (W 4) = 0 ∨ (W 4) = 1 := by rw [hS.2.1.2.2.1]; exact h4
  have h16 := hS.2.2.1.2.2.2.2.2.2.2.2.2.2.2
  have hO5 : (O 5) = 0 ∨ (O 5) = 1 := by rw [hS.2.2.1.2.2.2.2.2.2.2.2.2.2.1]; exact h16
  have hX2 := hS.2.2.1.1
  have hon := hS.1.2.2.2
  have hD3 : ∀ i, i < n → (D i 3) = 0 ∨ (D i 3) = 1 := fun i hi => by rw [(hS.1.2.2.1 i hi).2.2.1]; exact hon i
  have i01 : (0 : Int32) = 0 ∨ (0 : Int32) = 1 := Or.inl rfl
  have i11 : (1 : Int32) = 0 ∨ (1 : Int32) = 1 := Or.inr rfl
  obtain ⟨x1, hv1⟩ : ∃ x1, xs (nI ii + 1).toNatClampNeg = x1 := ⟨_, rfl⟩
  obtain ⟨x2, hv2⟩ : ∃ x2, xs (nI ii + 2).toNatClampNeg = x2 := ⟨_, rfl⟩
  obtain ⟨x3, hv3⟩ : ∃ x3, xs (nI ii + 3).toNatClampNeg = x3 := ⟨_, rfl⟩
  have site : (∃ i, i < n ∧ x1 = nI i) ∨ (∀ i, i < n → x1 ≠ nI i) := by
    by_cases h : ∃ i, i < n ∧ x1 = nI i
    · exact Or.inl h
    · exact Or.inr fun i hi q => h ⟨i, hi, q⟩
  have near : fX4_near n D x1 = none ∨ ∃ i, i < n ∧ fX4_near n D x1 = some i := z_nearLt n D x1
  have miss : (∀ i, i < n → x1 ≠ nI i) → x1 < 4 → ¬ x1 < 0 → f x1.toNatClampNeg = none := by
    intro hm q1 q2
    obtain ⟨j, hj, rfl⟩ := nI_of q2
    have hj4 : j < 4 := (nI_ltI (b := 4) hj (by decide)).mp q1
    rw [nI_clamp hj]
    exact hf2 j (Nat.le_of_not_lt fun q => hm j q rfl) hj4
  · refine z_tsI B 834 dL_law_39 (by decide) (by decide) rfl rfl ?_
    refine z_to (bc := [zXo ax (az 0) sa (ak 0) (tk 0) (tc 0) X, zMo K am I R]) (br := [zZo K az Z W, zSa K sa f, zSO n so sc D, zSC K n sc Cs, zCo K ak F O, zCo K tk Ft Ot, zCa K tc Tc, zOu K ao g]) [0, 8] [1, 2, 3, 4, 5, 6, 7, 9] (zsp rfl rfl rfl) ?_
    refine aL_time l hl ao K ax (az 0) sa (ak 0) (tk 0) (tc 0) X am I R ([zZo K az Z W, zSa K sa f, zSO n so sc D, zSC K n sc Cs, zCo K ak F O, zCo K tk Ft Ot, zCa K tc Tc, zOu K ao g] : zB).flatten hS.2.2.1.2.1 B hX hbl hbA  (by omega) (by omega) ?_
    refine z_fro (bs := zFu K ax sa ao az ak tk tc am n f so sc X Z W D Cs F O Ft Ot Tc ((fX5_time I R).2) R g) (bc := [zXo ax (az 0) sa (ak 0) (tk 0) (tc 0) X, zMo K am ((fX5_time I R).2) R]) (br := [zZo K az Z W, zSa K sa f, zSO n so sc D, zSC K n sc Cs, zCo K ak F O, zCo K tk Ft Ot, zCa K tc Tc, zOu K ao g]) [0, 8] [1, 2, 3, 4, 5, 6, 7, 9] (zsp rfl rfl rfl) ?_
    exact next n f so sc X Z W D Cs F O Ft Ot Tc ((fX5_time I R).2) R g (hS.t 0) hf1 hf2
set_option maxHeartbeats 8000000 in
set_option maxRecDepth 100000 in
theorem law_op12 (l : Launch) (hl : l.stackTraces = false) {K : zK} {p : Program} {e : Env} {s : State} {m : MethodId} {below : List Frame} {meth : Method} {c : Code} {A : Nat → Prop} {Q : State → Prop} {ret9 : Option FieldType} {nm9 : String} {tb9 : List ExceptionTableEntry} {args : Array Value} {b L ii k9 n9 : Nat} {xs : Nat → Int32} (B : zF K p l s m args meth c A cL_law 7 RL nm9 wsL_law ret9 tb9) (hX : va_X b L xs s s.heap) (hbl : b < s.heap.size) (hbA : ¬ A b) (hL : L ≤ 2048) (h4L : ii + 4 ≤ L) (hk9 : k9 + 16 ≤ 601024) (hn9 : n9 + 512 ≤ 7293034) {ax sa ao : Nat} {az ak tk tc am : Nat → Nat}
    (next : ∀ (n : Nat) (f : Nat → Option Nat) (so : Nat → Nat) (sc : Nat → Nat → Nat) (X : Nat → Int32) (Z : Nat → Nat → Int32) (W : Nat → Int32) (D : Nat → Nat → Int32) (Cs : Nat → Nat → Nat → Int32) (F : Nat → Int32) (O : Nat → Int32) (Ft : Nat → Int32) (Ot : Nat → Int32) (Tc : Nat → Nat → Int32) (I : Nat → Int32) (R : Nat → Nat → Int32) (g : Nat → Int64), rR n X Z W D Cs O I R → (∀ a, a < n → f a = some (so a)) → (∀ a, n ≤ a → a < 4 → f a = none) → zW K p l e zR s m args below meth c A Q (k9 + 16) (n9 + 512) (zFu K ax sa ao az ak tk tc am n f so sc X Z W D Cs F O Ft Ot Tc I R g) [(0, .ref b), (1, .ref ax), (2, .ref (am 0)), (3, .ref ao), (4, .int (nI ii))] [] 1428) : ∀ (n : Nat) (f : Nat → Option Nat) (so : Nat → Nat) (sc : Nat → Nat → Nat) (X : Nat → Int32) (Z : Nat → Nat → Int32) (W : Nat → Int32) (D : Nat → Nat → Int32) (Cs : Nat → Nat → Nat → Int32) (F : Nat → Int32) (O : Nat → Int32) (Ft : Nat → Int32) (Ot : Nat → Int32) (Tc : Nat → Nat → Int32) (I : Nat → Int32) (R : Nat → Nat → Int32) (g : Nat → Int64), rR n X Z W D Cs O I R → (∀ a, a < n → f a = some (so a)) → (∀ a, n ≤ a → a < 4 → f a = none) → zW K p l e zR s m args below meth c A Q k9 n9 (zFu K ax sa ao az ak tk tc am n f so sc X Z W D Cs F O Ft Ot Tc I R g) [(0, .ref b), (1, .ref ax), (2, .ref (am 0)), (3, .ref ao), (4, .int (nI ii))] [.int (nI 12)] 39 := by
  intro n f so sc X Z W D Cs F O Ft Ot Tc I R g hS hf1 hf2
  have hn4 := hS.1.2.1
  have h5 : ¬ (I 5) < 0 := by rw [hS.1.1]; exact nI_pos (by omega)
  have h6 : (I 5).toNatClampNeg ≤ 4 := by rw [hS.1.1, nI_clamp (by omega)]; exact hn4
  have hZ := hS.2.1.zw
  have hC := hS.2.2.2.1.1
  have h4 := hS.2.1.2.2.2
  have hW4 : (W 4) = 0 ∨ (W 4) = 1 := by rw [hS.2.1.2.2.1]; exact h4
  have h16 := hS.2.2.1.2.2.2.2.2.2.2.2.2.2.2
  have hO5 : (O 5) = 0 ∨ (O 5) = 1 := by rw [hS.2.2.1.2.2.2.2.2.2.2.2.2.2.1]; exact h16
  have hX2 := hS.2.2.1.1
  have hon := hS.1.2.2.2
  have hD3 : ∀ i, i < n → (D i 3) = 0 ∨ (D i 3) = 1 := fun i hi => by rw [(hS.1.2.2.1 i hi).2.2.1]; exact hon i
  have i01 : (0 : Int32) = 0 ∨ (0 : Int32) = 1 := Or.inl rfl
  have i11 : (1 : Int32) = 0 ∨ (1 : Int32) = 1 := Or.inr rfl
  obtain ⟨x1, hv1⟩ : ∃ x1, xs (nI ii + 1).toNatClampNeg = x1 := ⟨_, rfl⟩
  obtain ⟨x2, hv2⟩ : ∃ x2, xs (nI ii + 2).toNatClampNeg = x2 := ⟨_, rfl⟩
  obtain ⟨x3, hv3⟩ : ∃ x3, xs (nI ii + 3).toNatClampNeg = x3 := ⟨_, rfl⟩
  have site : (∃ i, i < n ∧ x1 = nI i) ∨ (∀ i, i < n → x1 ≠ nI i) := by
    by_cases h : ∃ i, i < n ∧ x1 = nI i
    · exact Or.inl h
    · exact Or.inr fun i hi q => h ⟨i, hi, q⟩
  have near : fX4_near n D x1 = none ∨ ∃ i, i < n ∧ fX4_near n D x1 = some i := z_nearLt n D x1
  have miss : (∀ i, i < n → x1 ≠ nI i) → x1 < 4 → ¬ x1 < 0 → f x1.toNatClampNeg = none := by
    intro hm q1 q2
    obtain ⟨j, hj, rfl⟩ := nI_of q2
    have hj4 : j < 4 := (nI_ltI (b := 4) hj (by decide)).mp q1
    rw [nI_clamp hj]
    exact hf2 j (Nat.le_of_not_lt fun q => hm j q rfl) hj4
  · rcases near with hN | ⟨i, hi, hN⟩
    · refine z_tsI B 847 dL_law_39 (by decide) (by decide) rfl rfl ?_
      refine z_to (bc := [zXo ax (az 0) sa (ak 0) (tk 0) (tc 0) X, zSa K sa f, zSO n so sc D, zOu K ao g, zMo K am I R]) (br := [zZo K az Z W, zSC K n sc Cs, zCo K ak F O, zCo K tk Ft Ot, zCa K tc Tc]) [0, 2, 3, 9, 8] [1, 4, 5, 6, 7] (zsp rfl rfl rfl) ?_
      refine aL_query_m l hl K ax (az 0) sa (ak 0) (tk 0) (tc 0) X f n so sc D x1 x2 ao g am I R hf1 hf2 hN h5 h6 hZ hC ([zZo K az Z W, zSC K n sc Cs, zCo K ak F O, zCo K tk Ft Ot, zCa K tc Tc] : zB).flatten (q_query_m hS hN).1 B hX hbl hbA (r_hi hL h4L (k := 1) (by decide)) hv1 (r_hi hL h4L (k := 2) (by decide)) hv2 (by omega) (by omega) ?_
      refine z_fro (bs := zFu K ax sa ao az ak tk tc am n f so sc X Z W D Cs F O Ft Ot Tc ((fX5_query I R x1 x2).2.1) ((fX5_query I R x1 x2).2.2) g) (bc := [zXo ax (az 0) sa (ak 0) (tk 0) (tc 0) X, zSa K sa f, zSO n so sc D, zOu K ao g, zMo K am ((fX5_query I R x1 x2).2.1) ((fX5_query I R x1 x2).2.2)]) (br := [zZo K az Z W, zSC K n sc Cs, zCo K ak F O, zCo K tk Ft Ot, zCa K tc Tc]) [0, 2, 3, 9, 8] [1, 4, 5, 6, 7] (zsp rfl rfl rfl) ?_
      exact next n f so sc X Z W D Cs F O Ft Ot Tc ((fX5_query I R x1 x2).2.1) ((fX5_query I R x1 x2).2.2) g (q_query_m hS hN).2 hf1 hf2
    · refine z_tsI B 847 dL_law_39 (by decide) (by decide) rfl rfl ?_
      refine z_perm (bs' := zFi K ax sa ao az ak tk tc am n f so sc X Z W D Cs i (Cs i) F O Ft Ot Tc I R g) (zFi_of hi) ?_
      refine z_to (bc := [zXo ax (az 0) sa (ak 0) (tk 0) (tc 0) X, zSa K sa f, zSO n so sc D, zCa K (sc i) (Cs i), zZo K az Z W, zCo K ak F O, zOu K ao g, zMo K am I R]) (br := [zCo K tk Ft Ot, zCa K tc Tc, zSX K n sc Cs i]) [0, 2, 3, 4, 1, 5, 9, 8] [6, 7, 10] (zsp rfl rfl rfl) ?_
      refine aL_query_h l hl K ax az sa ak (tk 0) (tc 0) X f n so sc D i (Cs i) Z W F O x1 x2 ao g am I R hf1 hf2 hi hN h5 h6 hZ hC ([zCo K tk Ft Ot, zCa K tc Tc, zSX K n sc Cs i] : zB).flatten (q_query_h hS hi hN).1 B hX hbl hbA (r_hi hL h4L (k := 1) (by decide)) hv1 (r_hi hL h4L (k := 2) (by decide)) hv2 (by omega) (by omega) ?_
      refine z_fro (bs := zFi K ax sa ao az ak tk tc am n f so sc ((fL_query_h X D i (Cs i) Z W F O x1 x2 g).2.1) Z W D Cs i ((fL_query_h X D i (Cs i) Z W F O x1 x2 g).2.2.1) ((fL_query_h X D i (Cs i) Z W F O x1 x2 g).2.2.2.1) ((fL_query_h X D i (Cs i) Z W F O x1 x2 g).2.2.2.2.1) Ft Ot Tc ((fX5_query I R x1 x2).2.1) ((fX5_query I R x1 x2).2.2) ((fL_query_h X D i (Cs i) Z W F O x1 x2 g).2.2.2.2.2)) (bc := [zXo ax (az 0) sa (ak 0) (tk 0) (tc 0) ((fL_query_h X D i (Cs i) Z W F O x1 x2 g).2.1), zSa K sa f, zSO n so sc D, zCa K (sc i) ((fL_query_h X D i (Cs i) Z W F O x1 x2 g).2.2.1), zZo K az Z W, zCo K ak ((fL_query_h X D i (Cs i) Z W F O x1 x2 g).2.2.2.1) ((fL_query_h X D i (Cs i) Z W F O x1 x2 g).2.2.2.2.1), zOu K ao ((fL_query_h X D i (Cs i) Z W F O x1 x2 g).2.2.2.2.2), zMo K am ((fX5_query I R x1 x2).2.1) ((fX5_query I R x1 x2).2.2)]) (br := [zCo K tk Ft Ot, zCa K tc Tc, zSX K n sc Cs i]) [0, 2, 3, 4, 1, 5, 9, 8] [6, 7, 10] (zsp rfl rfl rfl) ?_
      refine z_perm (bs' := zFu K ax sa ao az ak tk tc am n f so sc ((fL_query_h X D i (Cs i) Z W F O x1 x2 g).2.1) Z W D (va_up Cs i ((fL_query_h X D i (Cs i) Z W F O x1 x2 g).2.2.1)) ((fL_query_h X D i (Cs i) Z W F O x1 x2 g).2.2.2.1) ((fL_query_h X D i (Cs i) Z W F O x1 x2 g).2.2.2.2.1) Ft Ot Tc ((fX5_query I R x1 x2).2.1) ((fX5_query I R x1 x2).2.2) ((fL_query_h X D i (Cs i) Z W F O x1 x2 g).2.2.2.2.2)) (zFi_to hi) ?_
      exact next n f so sc ((fL_query_h X D i (Cs i) Z W F O x1 x2 g).2.1) Z W D (va_up Cs i ((fL_query_h X D i (Cs i) Z W F O x1 x2 g).2.2.1)) ((fL_query_h X D i (Cs i) Z W F O x1 x2 g).2.2.2.1) ((fL_query_h X D i (Cs i) Z W F O x1 x2 g).2.2.2.2.1) Ft Ot Tc ((fX5_query I R x1 x2).2.1) ((fX5_query I R x1 x2).2.2) ((fL_query_h X D i (Cs i) Z W F O x1 x2 g).2.2.2.2.2) (q_query_h hS hi hN).2 hf1 hf2
set_option maxHeartbeats 8000000 in
set_option maxRecDepth 100000 in
theorem law_op13 (l : Launch) (hl : l.stackTraces = false) {K : zK} {p : Program} {e : Env} {s : State} {m : MethodId} {below : List Frame} {meth : Method} {c : Code} {A : Nat → Prop} {Q : State → Prop} {ret9 : Option FieldType} {nm9 : String} {tb9 : List ExceptionTableEntry} {args : Array Value} {b L ii k9 n9 : Nat} {xs : Nat → Int32} (B : zF K p l s m args meth c A cL_law 7 RL nm9 wsL_law ret9 tb9) (hX : va_X b L xs s s.heap) (hbl : b < s.heap.size) (hbA : ¬ A b) (hL : L ≤ 2048) (h4L : ii + 4 ≤ L) (hk9 : k9 + 16 ≤ 601024) (hn9 : n9 + 512 ≤ 7293034) {ax sa ao : Nat} {az ak tk tc am : Nat → Nat}
    (next : ∀ (n : Nat) (f : Nat → Option Nat) (so : Nat → Nat) (sc : Nat → Nat → Nat) (X : Nat → Int32) (Z : Nat → Nat → Int32) (W : Nat → Int32) (D : Nat → Nat → Int32) (Cs : Nat → Nat → Nat → Int32) (F : Nat → Int32) (O : Nat → Int32) (Ft : Nat → Int32) (Ot : Nat → Int32) (Tc : Nat → Nat → Int32) (I : Nat → Int32) (R : Nat → Nat → Int32) (g : Nat → Int64), rR n X Z W D Cs O I R → (∀ a, a < n → f a = some (so a)) → (∀ a, n ≤ a → a < 4 → f a = none) → zW K p l e zR s m args below meth c A Q (k9 + 16) (n9 + 512) (zFu K ax sa ao az ak tk tc am n f so sc X Z W D Cs F O Ft Ot Tc I R g) [(0, .ref b), (1, .ref ax), (2, .ref (am 0)), (3, .ref ao), (4, .int (nI ii))] [] 1428) : ∀ (n : Nat) (f : Nat → Option Nat) (so : Nat → Nat) (sc : Nat → Nat → Nat) (X : Nat → Int32) (Z : Nat → Nat → Int32) (W : Nat → Int32) (D : Nat → Nat → Int32) (Cs : Nat → Nat → Nat → Int32) (F : Nat → Int32) (O : Nat → Int32) (Ft : Nat → Int32) (Ot : Nat → Int32) (Tc : Nat → Nat → Int32) (I : Nat → Int32) (R : Nat → Nat → Int32) (g : Nat → Int64), rR n X Z W D Cs O I R → (∀ a, a < n → f a = some (so a)) → (∀ a, n ≤ a → a < 4 → f a = none) → zW K p l e zR s m args below meth c A Q k9 n9 (zFu K ax sa ao az ak tk tc am n f so sc X Z W D Cs F O Ft Ot Tc I R g) [(0, .ref b), (1, .ref ax), (2, .ref (am 0)), (3, .ref ao), (4, .int (nI ii))] [.int (nI 13)] 39 := by
  intro n f so sc X Z W D Cs F O Ft Ot Tc I R g hS hf1 hf2
  have hn4 := hS.1.2.1
  have h5 : ¬ (I 5) < 0 := by rw [hS.1.1]; exact nI_pos (by omega)
  have h6 : (I 5).toNatClampNeg ≤ 4 := by rw [hS.1.1, nI_clamp (by omega)]; exact hn4
  have hZ := hS.2.1.zw
  have hC := hS.2.2.2.1.1
  have h4 := hS.2.1.2.2.2
  have hW4 : (W 4) = 0 ∨ (W 4) = 1 := by rw [hS.2.1.2.2.1]; exact h4
  have h16 := hS.2.2.1.2.2.2.2.2.2.2.2.2.2.2
  have hO5 : (O 5) = 0 ∨ (O 5) = 1 := by rw [hS.2.2.1.2.2.2.2.2.2.2.2.2.2.1]; exact h16
  have hX2 := hS.2.2.1.1
  have hon := hS.1.2.2.2
  have hD3 : ∀ i, i < n → (D i 3) = 0 ∨ (D i 3) = 1 := fun i hi => by rw [(hS.1.2.2.1 i hi).2.2.1]; exact hon i
  have i01 : (0 : Int32) = 0 ∨ (0 : Int32) = 1 := Or.inl rfl
  have i11 : (1 : Int32) = 0 ∨ (1 : Int32) = 1 := Or.inr rfl
  obtain ⟨x1, hv1⟩ : ∃ x1, xs (nI ii + 1).toNatClampNeg = x1 := ⟨_, rfl⟩
  obtain ⟨x2, hv2⟩ : ∃ x2, xs (nI ii + 2).toNatClampNeg = x2 := ⟨_, rfl⟩
  obtain ⟨x3, hv3⟩ : ∃ x3, xs (nI ii + 3).toNatClampNeg = x3 := ⟨_, rfl⟩
  have site : (∃ i, i < n ∧ x1 = nI i) ∨ (∀ i, i < n → x1 ≠ nI i) := by
    by_cases h : ∃ i, i < n ∧ x1 = nI i
    · exact Or.inl h
    · exact Or.inr fun i hi q => h ⟨i, hi, q⟩
  have near : fX4_near n D x1 = none ∨ ∃ i, i < n ∧ fX4_near n D x1 = some i := z_nearLt n D x1
  have miss : (∀ i, i < n → x1 ≠ nI i) → x1 < 4 → ¬ x1 < 0 → f x1.toNatClampNeg = none := by
    intro hm q1 q2
    obtain ⟨j, hj, rfl⟩ := nI_of q2
    have hj4 : j < 4 := (nI_ltI (b := 4) hj (by decide)).mp q1
    rw [nI_clamp hj]
    exact hf2 j (Nat.le_of_not_lt fun q => hm j q rfl) hj4
  · rcases near with hN | ⟨i, hi, hN⟩
    · refine z_tsI B 915 dL_law_39 (by decide) (by decide) rfl rfl ?_
      refine z_to (bc := [zXo ax (az 0) sa (ak 0) (tk 0) (tc 0) X, zSa K sa f, zSO n so sc D, zOu K ao g, zMo K am I R]) (br := [zZo K az Z W, zSC K n sc Cs, zCo K ak F O, zCo K tk Ft Ot, zCa K tc Tc]) [0, 2, 3, 9, 8] [1, 4, 5, 6, 7] (zsp rfl rfl rfl) ?_
      refine aL_wouldAnswer_m l hl K ax (az 0) sa (ak 0) (tk 0) (tc 0) X f n so sc D x1 x2 ao g am I R hf1 hf2 hN h5 h6 hZ hC h16 ([zZo K az Z W, zSC K n sc Cs, zCo K ak F O, zCo K tk Ft Ot, zCa K tc Tc] : zB).flatten (q_wouldAnswer_m hS hN).1 B hX hbl hbA (r_hi hL h4L (k := 1) (by decide)) hv1 (r_hi hL h4L (k := 2) (by decide)) hv2 (by omega) (by omega) ?_
      refine z_fro (bs := zFu K ax sa ao az ak tk tc am n f so sc X Z W D Cs F O Ft Ot Tc ((fX5_wouldAnswer I R x1 x2).2.1) ((fX5_wouldAnswer I R x1 x2).2.2) g) (bc := [zXo ax (az 0) sa (ak 0) (tk 0) (tc 0) X, zSa K sa f, zSO n so sc D, zOu K ao g, zMo K am ((fX5_wouldAnswer I R x1 x2).2.1) ((fX5_wouldAnswer I R x1 x2).2.2)]) (br := [zZo K az Z W, zSC K n sc Cs, zCo K ak F O, zCo K tk Ft Ot, zCa K tc Tc]) [0, 2, 3, 9, 8] [1, 4, 5, 6, 7] (zsp rfl rfl rfl) ?_
      exact next n f so sc X Z W D Cs F O Ft Ot Tc ((fX5_wouldAnswer I R x1 x2).2.1) ((fX5_wouldAnswer I R x1 x2).2.2) g (q_wouldAnswer_m hS hN).2 hf1 hf2
    · refine z_tsI B 915 dL_law_39 (by decide) (by decide) rfl rfl ?_
      refine z_perm (bs' := zFi K ax sa ao az ak tk tc am n f so sc X Z W D Cs i (Cs i) F O Ft Ot Tc I R g) (zFi_of hi) ?_
      refine z_to (bc := [zXo ax (az 0) sa (ak 0) (tk 0) (tc 0) X, zSa K sa f, zSO n so sc D, zCa K (sc i) (Cs i), zZo K az Z W, zCo K tk Ft Ot, zCa K tc Tc, zOu K ao g, zMo K am I R]) (br := [zCo K ak F O, zSX K n sc Cs i]) [0, 2, 3, 4, 1, 6, 7, 9, 8] [5, 10] (zsp rfl rfl rfl) ?_
      refine aL_wouldAnswer_h l hl K ax az sa (ak 0) tk tc X f n so sc D i (Cs i) Z W Ft Ot Tc x1 x2 ao g am I R hf1 hf2 hi hN h5 h6 hZ hC h16 ([zCo K ak F O, zSX K n sc Cs i] : zB).flatten (q_wouldAnswer_h hS hi hN).1 B hX hbl hbA (r_hi hL h4L (k := 1) (by decide)) hv1 (r_hi hL h4L (k := 2) (by decide)) hv2 (by omega) (by omega) ?_
      refine z_fro (bs := zFi K ax sa ao az ak tk tc am n f so sc X Z W D Cs i (Cs i) F O ((fL_wouldAnswer_h X D i (Cs i) Z W Ft Ot Tc x1 x2 g).2.1) ((fL_wouldAnswer_h X D i (Cs i) Z W Ft Ot Tc x1 x2 g).2.2.1) ((fL_wouldAnswer_h X D i (Cs i) Z W Ft Ot Tc x1 x2 g).2.2.2.1) ((fX5_wouldAnswer I R x1 x2).2.1) ((fX5_wouldAnswer I R x1 x2).2.2) ((fL_wouldAnswer_h X D i (Cs i) Z W Ft Ot Tc x1 x2 g).2.2.2.2)) (bc := [zXo ax (az 0) sa (ak 0) (tk 0) (tc 0) X, zSa K sa f, zSO n so sc D, zCa K (sc i) (Cs i), zZo K az Z W, zCo K tk ((fL_wouldAnswer_h X D i (Cs i) Z W Ft Ot Tc x1 x2 g).2.1) ((fL_wouldAnswer_h X D i (Cs i) Z W Ft Ot Tc x1 x2 g).2.2.1), zCa K tc ((fL_wouldAnswer_h X D i (Cs i) Z W Ft Ot Tc x1 x2 g).2.2.2.1), zOu K ao ((fL_wouldAnswer_h X D i (Cs i) Z W Ft Ot Tc x1 x2 g).2.2.2.2), zMo K am ((fX5_wouldAnswer I R x1 x2).2.1) ((fX5_wouldAnswer I R x1 x2).2.2)]) (br := [zCo K ak F O, zSX K n sc Cs i]) [0, 2, 3, 4, 1, 6, 7, 9, 8] [5, 10] (zsp rfl rfl rfl) ?_
      refine z_perm (bs' := zFu K ax sa ao az ak tk tc am n f so sc X Z W D Cs F O ((fL_wouldAnswer_h X D i (Cs i) Z W Ft Ot Tc x1 x2 g).2.1) ((fL_wouldAnswer_h X D i (Cs i) Z W Ft Ot Tc x1 x2 g).2.2.1) ((fL_wouldAnswer_h X D i (Cs i) Z W Ft Ot Tc x1 x2 g).2.2.2.1) ((fX5_wouldAnswer I R x1 x2).2.1) ((fX5_wouldAnswer I R x1 x2).2.2) ((fL_wouldAnswer_h X D i (Cs i) Z W Ft Ot Tc x1 x2 g).2.2.2.2)) (zFi_of hi).symm ?_
      exact next n f so sc X Z W D Cs F O ((fL_wouldAnswer_h X D i (Cs i) Z W Ft Ot Tc x1 x2 g).2.1) ((fL_wouldAnswer_h X D i (Cs i) Z W Ft Ot Tc x1 x2 g).2.2.1) ((fL_wouldAnswer_h X D i (Cs i) Z W Ft Ot Tc x1 x2 g).2.2.2.1) ((fX5_wouldAnswer I R x1 x2).2.1) ((fX5_wouldAnswer I R x1 x2).2.2) ((fL_wouldAnswer_h X D i (Cs i) Z W Ft Ot Tc x1 x2 g).2.2.2.2) (q_wouldAnswer_h hS hi hN).2 hf1 hf2
set_option maxHeartbeats 8000000 in
set_option maxRecDepth 100000 in
theorem law_op14 (l : Launch) (hl : l.stackTraces = false) {K : zK} {p : Program} {e : Env} {s : State} {m : MethodId} {below : List Frame} {meth : Method} {c : Code} {A : Nat → Prop} {Q : State → Prop} {ret9 : Option FieldType} {nm9 : String} {tb9 : List ExceptionTableEntry} {args : Array Value} {b L ii k9 n9 : Nat} {xs : Nat → Int32} (B : zF K p l s m args meth c A cL_law 7 RL nm9 wsL_law ret9 tb9) (hX : va_X b L xs s s.heap) (hbl : b < s.heap.size) (hbA : ¬ A b) (hL : L ≤ 2048) (h4L : ii + 4 ≤ L) (hk9 : k9 + 16 ≤ 601024) (hn9 : n9 + 512 ≤ 7293034) {ax sa ao : Nat} {az ak tk tc am : Nat → Nat}
    (next : ∀ (n : Nat) (f : Nat → Option Nat) (so : Nat → Nat) (sc : Nat → Nat → Nat) (X : Nat → Int32) (Z : Nat → Nat → Int32) (W : Nat → Int32) (D : Nat → Nat → Int32) (Cs : Nat → Nat → Nat → Int32) (F : Nat → Int32) (O : Nat → Int32) (Ft : Nat → Int32) (Ot : Nat → Int32) (Tc : Nat → Nat → Int32) (I : Nat → Int32) (R : Nat → Nat → Int32) (g : Nat → Int64), rR n X Z W D Cs O I R → (∀ a, a < n → f a = some (so a)) → (∀ a, n ≤ a → a < 4 → f a = none) → zW K p l e zR s m args below meth c A Q (k9 + 16) (n9 + 512) (zFu K ax sa ao az ak tk tc am n f so sc X Z W D Cs F O Ft Ot Tc I R g) [(0, .ref b), (1, .ref ax), (2, .ref (am 0)), (3, .ref ao), (4, .int (nI ii))] [] 1428) : ∀ (n : Nat) (f : Nat → Option Nat) (so : Nat → Nat) (sc : Nat → Nat → Nat) (X : Nat → Int32) (Z : Nat → Nat → Int32) (W : Nat → Int32) (D : Nat → Nat → Int32) (Cs : Nat → Nat → Nat → Int32) (F : Nat → Int32) (O : Nat → Int32) (Ft : Nat → Int32) (Ot : Nat → Int32) (Tc : Nat → Nat → Int32) (I : Nat → Int32) (R : Nat → Nat → Int32) (g : Nat → Int64), rR n X Z W D Cs O I R → (∀ a, a < n → f a = some (so a)) → (∀ a, n ≤ a → a < 4 → f a = none) → zW K p l e zR s m args below meth c A Q k9 n9 (zFu K ax sa ao az ak tk tc am n f so sc X Z W D Cs F O Ft Ot Tc I R g) [(0, .ref b), (1, .ref ax), (2, .ref (am 0)), (3, .ref ao), (4, .int (nI ii))] [.int (nI 14)] 39 := by
  intro n f so sc X Z W D Cs F O Ft Ot Tc I R g hS hf1 hf2
  have hn4 := hS.1.2.1
  have h5 : ¬ (I 5) < 0 := by rw [hS.1.1]; exact nI_pos (by omega)
  have h6 : (I 5).toNatClampNeg ≤ 4 := by rw [hS.1.1, nI_clamp (by omega)]; exact hn4
  have hZ := hS.2.1.zw
  have hC := hS.2.2.2.1.1
  have h4 := hS.2.1.2.2.2
  have hW4 : (W 4) = 0 ∨ (W 4) = 1 := by rw [hS.2.1.2.2.1]; exact h4
  have h16 := hS.2.2.1.2.2.2.2.2.2.2.2.2.2.2
  have hO5 : (O 5) = 0 ∨ (O 5) = 1 := by rw [hS.2.2.1.2.2.2.2.2.2.2.2.2.2.1]; exact h16
  have hX2 := hS.2.2.1.1
  have hon := hS.1.2.2.2
  have hD3 : ∀ i, i < n → (D i 3) = 0 ∨ (D i 3) = 1 := fun i hi => by rw [(hS.1.2.2.1 i hi).2.2.1]; exact hon i
  have i01 : (0 : Int32) = 0 ∨ (0 : Int32) = 1 := Or.inl rfl
  have i11 : (1 : Int32) = 0 ∨ (1 : Int32) = 1 := Or.inr rfl
  obtain ⟨x1, hv1⟩ : ∃ x1, xs (nI ii + 1).toNatClampNeg = x1 := ⟨_, rfl⟩
  obtain ⟨x2, hv2⟩ : ∃ x2, xs (nI ii + 2).toNatClampNeg = x2 := ⟨_, rfl⟩
  obtain ⟨x3, hv3⟩ : ∃ x3, xs (nI ii + 3).toNatClampNeg = x3 := ⟨_, rfl⟩
  have site : (∃ i, i < n ∧ x1 = nI i) ∨ (∀ i, i < n → x1 ≠ nI i) := by
    by_cases h : ∃ i, i < n ∧ x1 = nI i
    · exact Or.inl h
    · exact Or.inr fun i hi q => h ⟨i, hi, q⟩
  have near : fX4_near n D x1 = none ∨ ∃ i, i < n ∧ fX4_near n D x1 = some i := z_nearLt n D x1
  have miss : (∀ i, i < n → x1 ≠ nI i) → x1 < 4 → ¬ x1 < 0 → f x1.toNatClampNeg = none := by
    intro hm q1 q2
    obtain ⟨j, hj, rfl⟩ := nI_of q2
    have hj4 : j < 4 := (nI_ltI (b := 4) hj (by decide)).mp q1
    rw [nI_clamp hj]
    exact hf2 j (Nat.le_of_not_lt fun q => hm j q rfl) hj4
  · refine z_tsI B 983 dL_law_39 (by decide) (by decide) rfl rfl ?_
    refine z_to (bc := [zXo ax (az 0) sa (ak 0) (tk 0) (tc 0) X, zMo K am I R]) (br := [zZo K az Z W, zSa K sa f, zSO n so sc D, zSC K n sc Cs, zCo K ak F O, zCo K tk Ft Ot, zCa K tc Tc, zOu K ao g]) [0, 8] [1, 2, 3, 4, 5, 6, 7, 9] (zsp rfl rfl rfl) ?_
    refine aL_lastSite l hl ao K ax (az 0) sa (ak 0) (tk 0) (tc 0) X am I R ([zZo K az Z W, zSa K sa f, zSO n so sc D, zSC K n sc Cs, zCo K ak F O, zCo K tk Ft Ot, zCa K tc Tc, zOu K ao g] : zB).flatten hS.2.2.1.2.2.1 B hX hbl hbA  (by omega) (by omega) ?_
    refine z_fro (bs := zFu K ax sa ao az ak tk tc am n f so sc X Z W D Cs F O Ft Ot Tc ((fX5_lastSite I R).2) R g) (bc := [zXo ax (az 0) sa (ak 0) (tk 0) (tc 0) X, zMo K am ((fX5_lastSite I R).2) R]) (br := [zZo K az Z W, zSa K sa f, zSO n so sc D, zSC K n sc Cs, zCo K ak F O, zCo K tk Ft Ot, zCa K tc Tc, zOu K ao g]) [0, 8] [1, 2, 3, 4, 5, 6, 7, 9] (zsp rfl rfl rfl) ?_
    exact next n f so sc X Z W D Cs F O Ft Ot Tc ((fX5_lastSite I R).2) R g (hS.t 0) hf1 hf2
set_option maxHeartbeats 8000000 in
set_option maxRecDepth 100000 in
theorem law_op15 (l : Launch) (hl : l.stackTraces = false) {K : zK} {p : Program} {e : Env} {s : State} {m : MethodId} {below : List Frame} {meth : Method} {c : Code} {A : Nat → Prop} {Q : State → Prop} {ret9 : Option FieldType} {nm9 : String} {tb9 : List ExceptionTableEntry} {args : Array Value} {b L ii k9 n9 : Nat} {xs : Nat → Int32} (B : zF K p l s m args meth c A cL_law 7 RL nm9 wsL_law ret9 tb9) (hX : va_X b L xs s s.heap) (hbl : b < s.heap.size) (hbA : ¬ A b) (hL : L ≤ 2048) (h4L : ii + 4 ≤ L) (hk9 : k9 + 16 ≤ 601024) (hn9 : n9 + 512 ≤ 7293034) {ax sa ao : Nat} {az ak tk tc am : Nat → Nat}
    (next : ∀ (n : Nat) (f : Nat → Option Nat) (so : Nat → Nat) (sc : Nat → Nat → Nat) (X : Nat → Int32) (Z : Nat → Nat → Int32) (W : Nat → Int32) (D : Nat → Nat → Int32) (Cs : Nat → Nat → Nat → Int32) (F : Nat → Int32) (O : Nat → Int32) (Ft : Nat → Int32) (Ot : Nat → Int32) (Tc : Nat → Nat → Int32) (I : Nat → Int32) (R : Nat → Nat → Int32) (g : Nat → Int64), rR n X Z W D Cs O I R → (∀ a, a < n → f a = some (so a)) → (∀ a, n ≤ a → a < 4 → f a = none) → zW K p l e zR s m args below meth c A Q (k9 + 16) (n9 + 512) (zFu K ax sa ao az ak tk tc am n f so sc X Z W D Cs F O Ft Ot Tc I R g) [(0, .ref b), (1, .ref ax), (2, .ref (am 0)), (3, .ref ao), (4, .int (nI ii))] [] 1428) : ∀ (n : Nat) (f : Nat → Option Nat) (so : Nat → Nat) (sc : Nat → Nat → Nat) (X : Nat → Int32) (Z : Nat → Nat → Int32) (W : Nat → Int32) (D : Nat → Nat → Int32) (Cs : Nat → Nat → Nat → Int32) (F : Nat → Int32) (O : Nat → Int32) (Ft : Nat → Int32) (Ot : Nat → Int32) (Tc : Nat → Nat → Int32) (I : Nat → Int32) (R : Nat → Nat → Int32) (g : Nat → Int64), rR n X Z W D Cs O I R → (∀ a, a < n → f a = some (so a)) → (∀ a, n ≤ a → a < 4 → f a = none) → zW K p l e zR s m args below meth c A Q k9 n9 (zFu K ax sa ao az ak tk tc am n f so sc X Z W D Cs F O Ft Ot Tc I R g) [(0, .ref b), (1, .ref ax), (2, .ref (am 0)), (3, .ref ao), (4, .int (nI ii))] [.int (nI 15)] 39 := by
  intro n f so sc X Z W D Cs F O Ft Ot Tc I R g hS hf1 hf2
  have hn4 := hS.1.2.1
  have h5 : ¬ (I 5) < 0 := by rw [hS.1.1]; exact nI_pos (by omega)
  have h6 : (I 5).toNatClampNeg ≤ 4 := by rw [hS.1.1, nI_clamp (by omega)]; exact hn4
  have hZ := hS.2.1.zw
  have hC := hS.2.2.2.1.1
  have h4 := hS.2.1.2.2.2
  have hW4 : (W 4) = 0 ∨ (W 4) = 1 := by rw [hS.2.1.2.2.1]; exact h4
  have h16 := hS.2.2.1.2.2.2.2.2.2.2.2.2.2.2
  have hO5 : (O 5) = 0 ∨ (O 5) = 1 := by rw [hS.2.2.1.2.2.2.2.2.2.2.2.2.2.1]; exact h16
  have hX2 := hS.2.2.1.1
  have hon := hS.1.2.2.2
  have hD3 : ∀ i, i < n → (D i 3) = 0 ∨ (D i 3) = 1 := fun i hi => by rw [(hS.1.2.2.1 i hi).2.2.1]; exact hon i
  have i01 : (0 : Int32) = 0 ∨ (0 : Int32) = 1 := Or.inl rfl
  have i11 : (1 : Int32) = 0 ∨ (1 : Int32) = 1 := Or.inr rfl
  obtain ⟨x1, hv1⟩ : ∃ x1, xs (nI ii + 1).toNatClampNeg = x1 := ⟨_, rfl⟩
  obtain ⟨x2, hv2⟩ : ∃ x2, xs (nI ii + 2).toNatClampNeg = x2 := ⟨_, rfl⟩
  obtain ⟨x3, hv3⟩ : ∃ x3, xs (nI ii + 3).toNatClampNeg = x3 := ⟨_, rfl⟩
  have site : (∃ i, i < n ∧ x1 = nI i) ∨ (∀ i, i < n → x1 ≠ nI i) := by
    by_cases h : ∃ i, i < n ∧ x1 = nI i
    · exact Or.inl h
    · exact Or.inr fun i hi q => h ⟨i, hi, q⟩
  have near : fX4_near n D x1 = none ∨ ∃ i, i < n ∧ fX4_near n D x1 = some i := z_nearLt n D x1
  have miss : (∀ i, i < n → x1 ≠ nI i) → x1 < 4 → ¬ x1 < 0 → f x1.toNatClampNeg = none := by
    intro hm q1 q2
    obtain ⟨j, hj, rfl⟩ := nI_of q2
    have hj4 : j < 4 := (nI_ltI (b := 4) hj (by decide)).mp q1
    rw [nI_clamp hj]
    exact hf2 j (Nat.le_of_not_lt fun q => hm j q rfl) hj4
  · refine z_tsI B 996 dL_law_39 (by decide) (by decide) rfl rfl ?_
    refine z_to (bc := [zXo ax (az 0) sa (ak 0) (tk 0) (tc 0) X, zCo K ak F O, zMo K am I R]) (br := [zZo K az Z W, zSa K sa f, zSO n so sc D, zSC K n sc Cs, zCo K tk Ft Ot, zCa K tc Tc, zOu K ao g]) [0, 5, 8] [1, 2, 3, 4, 6, 7, 9] (zsp rfl rfl rfl) ?_
    refine aL_lastWasStale l hl ao K ax (az 0) sa ak (tk 0) (tc 0) X F O am I R hO5 h16 ([zZo K az Z W, zSa K sa f, zSO n so sc D, zSC K n sc Cs, zCo K tk Ft Ot, zCa K tc Tc, zOu K ao g] : zB).flatten hS.2.2.1.2.2.2.2.2.2.2.2.2.2.1 B hX hbl hbA  (by omega) (by omega) ?_
    refine z_fro (bs := zFu K ax sa ao az ak tk tc am n f so sc X Z W D Cs F O Ft Ot Tc ((fX5_lastWasStale I R).2) R g) (bc := [zXo ax (az 0) sa (ak 0) (tk 0) (tc 0) X, zCo K ak F O, zMo K am ((fX5_lastWasStale I R).2) R]) (br := [zZo K az Z W, zSa K sa f, zSO n so sc D, zSC K n sc Cs, zCo K tk Ft Ot, zCa K tc Tc, zOu K ao g]) [0, 5, 8] [1, 2, 3, 4, 6, 7, 9] (zsp rfl rfl rfl) ?_
    exact next n f so sc X Z W D Cs F O Ft Ot Tc ((fX5_lastWasStale I R).2) R g (hS.t 0) hf1 hf2
set_option maxHeartbeats 8000000 in
set_option maxRecDepth 100000 in
theorem law_op16 (l : Launch) (hl : l.stackTraces = false) {K : zK} {p : Program} {e : Env} {s : State} {m : MethodId} {below : List Frame} {meth : Method} {c : Code} {A : Nat → Prop} {Q : State → Prop} {ret9 : Option FieldType} {nm9 : String} {tb9 : List ExceptionTableEntry} {args : Array Value} {b L ii k9 n9 : Nat} {xs : Nat → Int32} (B : zF K p l s m args meth c A cL_law 7 RL nm9 wsL_law ret9 tb9) (hX : va_X b L xs s s.heap) (hbl : b < s.heap.size) (hbA : ¬ A b) (hL : L ≤ 2048) (h4L : ii + 4 ≤ L) (hk9 : k9 + 16 ≤ 601024) (hn9 : n9 + 512 ≤ 7293034) {ax sa ao : Nat} {az ak tk tc am : Nat → Nat}
    (next : ∀ (n : Nat) (f : Nat → Option Nat) (so : Nat → Nat) (sc : Nat → Nat → Nat) (X : Nat → Int32) (Z : Nat → Nat → Int32) (W : Nat → Int32) (D : Nat → Nat → Int32) (Cs : Nat → Nat → Nat → Int32) (F : Nat → Int32) (O : Nat → Int32) (Ft : Nat → Int32) (Ot : Nat → Int32) (Tc : Nat → Nat → Int32) (I : Nat → Int32) (R : Nat → Nat → Int32) (g : Nat → Int64), rR n X Z W D Cs O I R → (∀ a, a < n → f a = some (so a)) → (∀ a, n ≤ a → a < 4 → f a = none) → zW K p l e zR s m args below meth c A Q (k9 + 16) (n9 + 512) (zFu K ax sa ao az ak tk tc am n f so sc X Z W D Cs F O Ft Ot Tc I R g) [(0, .ref b), (1, .ref ax), (2, .ref (am 0)), (3, .ref ao), (4, .int (nI ii))] [] 1428) : ∀ (n : Nat) (f : Nat → Option Nat) (so : Nat → Nat) (sc : Nat → Nat → Nat) (X : Nat → Int32) (Z : Nat → Nat → Int32) (W : Nat → Int32) (D : Nat → Nat → Int32) (Cs : Nat → Nat → Nat → Int32) (F : Nat → Int32) (O : Nat → Int32) (Ft : Nat → Int32) (Ot : Nat → Int32) (Tc : Nat → Nat → Int32) (I : Nat → Int32) (R : Nat → Nat → Int32) (g : Nat → Int64), rR n X Z W D Cs O I R → (∀ a, a < n → f a = some (so a)) → (∀ a, n ≤ a → a < 4 → f a = none) → zW K p l e zR s m args below meth c A Q k9 n9 (zFu K ax sa ao az ak tk tc am n f so sc X Z W D Cs F O Ft Ot Tc I R g) [(0, .ref b), (1, .ref ax), (2, .ref (am 0)), (3, .ref ao), (4, .int (nI ii))] [.int (nI 16)] 39 := by
  intro n f so sc X Z W D Cs F O Ft Ot Tc I R g hS hf1 hf2
  have hn4 := hS.1.2.1
  have h5 : ¬ (I 5) < 0 := by rw [hS.1.1]; exact nI_pos (by omega)
  have h6 : (I 5).toNatClampNeg ≤ 4 := by rw [hS.1.1, nI_clamp (by omega)]; exact hn4
  have hZ := hS.2.1.zw
  have hC := hS.2.2.2.1.1
  have h4 := hS.2.1.2.2.2
  have hW4 : (W 4) = 0 ∨ (W 4) = 1 := by rw [hS.2.1.2.2.1]; exact h4
  have h16 := hS.2.2.1.2.2.2.2.2.2.2.2.2.2.2
  have hO5 : (O 5) = 0 ∨ (O 5) = 1 := by rw [hS.2.2.1.2.2.2.2.2.2.2.2.2.2.1]; exact h16
  have hX2 := hS.2.2.1.1
  have hon := hS.1.2.2.2
  have hD3 : ∀ i, i < n → (D i 3) = 0 ∨ (D i 3) = 1 := fun i hi => by rw [(hS.1.2.2.1 i hi).2.2.1]; exact hon i
  have i01 : (0 : Int32) = 0 ∨ (0 : Int32) = 1 := Or.inl rfl
  have i11 : (1 : Int32) = 0 ∨ (1 : Int32) = 1 := Or.inr rfl
  obtain ⟨x1, hv1⟩ : ∃ x1, xs (nI ii + 1).toNatClampNeg = x1 := ⟨_, rfl⟩
  obtain ⟨x2, hv2⟩ : ∃ x2, xs (nI ii + 2).toNatClampNeg = x2 := ⟨_, rfl⟩
  obtain ⟨x3, hv3⟩ : ∃ x3, xs (nI ii + 3).toNatClampNeg = x3 := ⟨_, rfl⟩
  have site : (∃ i, i < n ∧ x1 = nI i) ∨ (∀ i, i < n → x1 ≠ nI i) := by
    by_cases h : ∃ i, i < n ∧ x1 = nI i
    · exact Or.inl h
    · exact Or.inr fun i hi q => h ⟨i, hi, q⟩
  have near : fX4_near n D x1 = none ∨ ∃ i, i < n ∧ fX4_near n D x1 = some i := z_nearLt n D x1
  have miss : (∀ i, i < n → x1 ≠ nI i) → x1 < 4 → ¬ x1 < 0 → f x1.toNatClampNeg = none := by
    intro hm q1 q2
    obtain ⟨j, hj, rfl⟩ := nI_of q2
    have hj4 : j < 4 := (nI_ltI (b := 4) hj (by decide)).mp q1
    rw [nI_clamp hj]
    exact hf2 j (Nat.le_of_not_lt fun q => hm j q rfl) hj4
  · refine z_tsI B 1009 dL_law_39 (by decide) (by decide) rfl rfl ?_
    refine z_to (bc := [zXo ax (az 0) sa (ak 0) (tk 0) (tc 0) X, zCo K ak F O, zMo K am I R]) (br := [zZo K az Z W, zSa K sa f, zSO n so sc D, zSC K n sc Cs, zCo K tk Ft Ot, zCa K tc Tc, zOu K ao g]) [0, 5, 8] [1, 2, 3, 4, 6, 7, 9] (zsp rfl rfl rfl) ?_
    refine aL_lastLookUps l hl ao K ax (az 0) sa ak (tk 0) (tc 0) X F O am I R ([zZo K az Z W, zSa K sa f, zSO n so sc D, zSC K n sc Cs, zCo K tk Ft Ot, zCa K tc Tc, zOu K ao g] : zB).flatten hS.2.2.1.2.2.2.2.2.2.2.2.1 B hX hbl hbA  (by omega) (by omega) ?_
    refine z_fro (bs := zFu K ax sa ao az ak tk tc am n f so sc X Z W D Cs F O Ft Ot Tc ((fX5_lastLookUps I R).2) R g) (bc := [zXo ax (az 0) sa (ak 0) (tk 0) (tc 0) X, zCo K ak F O, zMo K am ((fX5_lastLookUps I R).2) R]) (br := [zZo K az Z W, zSa K sa f, zSO n so sc D, zSC K n sc Cs, zCo K tk Ft Ot, zCa K tc Tc, zOu K ao g]) [0, 5, 8] [1, 2, 3, 4, 6, 7, 9] (zsp rfl rfl rfl) ?_
    exact next n f so sc X Z W D Cs F O Ft Ot Tc ((fX5_lastLookUps I R).2) R g (hS.t 0) hf1 hf2
set_option maxHeartbeats 8000000 in
set_option maxRecDepth 100000 in
theorem law_op17 (l : Launch) (hl : l.stackTraces = false) {K : zK} {p : Program} {e : Env} {s : State} {m : MethodId} {below : List Frame} {meth : Method} {c : Code} {A : Nat → Prop} {Q : State → Prop} {ret9 : Option FieldType} {nm9 : String} {tb9 : List ExceptionTableEntry} {args : Array Value} {b L ii k9 n9 : Nat} {xs : Nat → Int32} (B : zF K p l s m args meth c A cL_law 7 RL nm9 wsL_law ret9 tb9) (hX : va_X b L xs s s.heap) (hbl : b < s.heap.size) (hbA : ¬ A b) (hL : L ≤ 2048) (h4L : ii + 4 ≤ L) (hk9 : k9 + 16 ≤ 601024) (hn9 : n9 + 512 ≤ 7293034) {ax sa ao : Nat} {az ak tk tc am : Nat → Nat}
    (next : ∀ (n : Nat) (f : Nat → Option Nat) (so : Nat → Nat) (sc : Nat → Nat → Nat) (X : Nat → Int32) (Z : Nat → Nat → Int32) (W : Nat → Int32) (D : Nat → Nat → Int32) (Cs : Nat → Nat → Nat → Int32) (F : Nat → Int32) (O : Nat → Int32) (Ft : Nat → Int32) (Ot : Nat → Int32) (Tc : Nat → Nat → Int32) (I : Nat → Int32) (R : Nat → Nat → Int32) (g : Nat → Int64), rR n X Z W D Cs O I R → (∀ a, a < n → f a = some (so a)) → (∀ a, n ≤ a → a < 4 → f a = none) → zW K p l e zR s m args below meth c A Q (k9 + 16) (n9 + 512) (zFu K ax sa ao az ak tk tc am n f so sc X Z W D Cs F O Ft Ot Tc I R g) [(0, .ref b), (1, .ref ax), (2, .ref (am 0)), (3, .ref ao), (4, .int (nI ii))] [] 1428) : ∀ (n : Nat) (f : Nat → Option Nat) (so : Nat → Nat) (sc : Nat → Nat → Nat) (X : Nat → Int32) (Z : Nat → Nat → Int32) (W : Nat → Int32) (D : Nat → Nat → Int32) (Cs : Nat → Nat → Nat → Int32) (F : Nat → Int32) (O : Nat → Int32) (Ft : Nat → Int32) (Ot : Nat → Int32) (Tc : Nat → Nat → Int32) (I : Nat → Int32) (R : Nat → Nat → Int32) (g : Nat → Int64), rR n X Z W D Cs O I R → (∀ a, a < n → f a = some (so a)) → (∀ a, n ≤ a → a < 4 → f a = none) → zW K p l e zR s m args below meth c A Q k9 n9 (zFu K ax sa ao az ak tk tc am n f so sc X Z W D Cs F O Ft Ot Tc I R g) [(0, .ref b), (1, .ref ax), (2, .ref (am 0)), (3, .ref ao), (4, .int (nI ii))] [.int (nI 17)] 39 := by
  intro n f so sc X Z W D Cs F O Ft Ot Tc I R g hS hf1 hf2
  have hn4 := hS.1.2.1
  have h5 : ¬ (I 5) < 0 := by rw [hS.1.1]; exact nI_pos (by omega)
  have h6 : (I 5).toNatClampNeg ≤ 4 := by rw [hS.1.1, nI_clamp (by omega)]; exact hn4
  have hZ := hS.2.1.zw
  have hC := hS.2.2.2.1.1
  have h4 := hS.2.1.2.2.2
  have hW4 : (W 4) = 0 ∨ (W 4) = 1 := by rw [hS.2.1.2.2.1]; exact h4
  have h16 := hS.2.2.1.2.2.2.2.2.2.2.2.2.2.2
  have hO5 : (O 5) = 0 ∨ (O 5) = 1 := by rw [hS.2.2.1.2.2.2.2.2.2.2.2.2.2.1]; exact h16
  have hX2 := hS.2.2.1.1
  have hon := hS.1.2.2.2
  have hD3 : ∀ i, i < n → (D i 3) = 0 ∨ (D i 3) = 1 := fun i hi => by rw [(hS.1.2.2.1 i hi).2.2.1]; exact hon i
  have i01 : (0 : Int32) = 0 ∨ (0 : Int32) = 1 := Or.inl rfl
  have i11 : (1 : Int32) = 0 ∨ (1 : Int32) = 1 := Or.inr rfl
  obtain ⟨x1, hv1⟩ : ∃ x1, xs (nI ii + 1).toNatClampNeg = x1 := ⟨_, rfl⟩
  obtain ⟨x2, hv2⟩ : ∃ x2, xs (nI ii + 2).toNatClampNeg = x2 := ⟨_, rfl⟩
  obtain ⟨x3, hv3⟩ : ∃ x3, xs (nI ii + 3).toNatClampNeg = x3 := ⟨_, rfl⟩
  have site : (∃ i, i < n ∧ x1 = nI i) ∨ (∀ i, i < n → x1 ≠ nI i) := by
    by_cases h : ∃ i, i < n ∧ x1 = nI i
    · exact Or.inl h
    · exact Or.inr fun i hi q => h ⟨i, hi, q⟩
  have near : fX4_near n D x1 = none ∨ ∃ i, i < n ∧ fX4_near n D x1 = some i := z_nearLt n D x1
  have miss : (∀ i, i < n → x1 ≠ nI i) → x1 < 4 → ¬ x1 < 0 → f x1.toNatClampNeg = none := by
    intro hm q1 q2
    obtain ⟨j, hj, rfl⟩ := nI_of q2
    have hj4 : j < 4 := (nI_ltI (b := 4) hj (by decide)).mp q1
    rw [nI_clamp hj]
    exact hf2 j (Nat.le_of_not_lt fun q => hm j q rfl) hj4
  · refine z_tsI B 1022 dL_law_39 (by decide) (by decide) rfl rfl ?_
    refine z_to (bc := [zXo ax (az 0) sa (ak 0) (tk 0) (tc 0) X, zCo K ak F O, zMo K am I R]) (br := [zZo K az Z W, zSa K sa f, zSO n so sc D, zSC K n sc Cs, zCo K tk Ft Ot, zCa K tc Tc, zOu K ao g]) [0, 5, 8] [1, 2, 3, 4, 6, 7, 9] (zsp rfl rfl rfl) ?_
    refine aL_lastFetches l hl ao K ax (az 0) sa ak (tk 0) (tc 0) X F O am I R ([zZo K az Z W, zSa K sa f, zSO n so sc D, zSC K n sc Cs, zCo K tk Ft Ot, zCa K tc Tc, zOu K ao g] : zB).flatten hS.2.2.1.2.2.2.2.2.2.2.2.2.1 B hX hbl hbA  (by omega) (by omega) ?_
    refine z_fro (bs := zFu K ax sa ao az ak tk tc am n f so sc X Z W D Cs F O Ft Ot Tc ((fX5_lastFetches I R).2) R g) (bc := [zXo ax (az 0) sa (ak 0) (tk 0) (tc 0) X, zCo K ak F O, zMo K am ((fX5_lastFetches I R).2) R]) (br := [zZo K az Z W, zSa K sa f, zSO n so sc D, zSC K n sc Cs, zCo K tk Ft Ot, zCa K tc Tc, zOu K ao g]) [0, 5, 8] [1, 2, 3, 4, 6, 7, 9] (zsp rfl rfl rfl) ?_
    exact next n f so sc X Z W D Cs F O Ft Ot Tc ((fX5_lastFetches I R).2) R g (hS.t 0) hf1 hf2
set_option maxHeartbeats 8000000 in
set_option maxRecDepth 100000 in
theorem law_op18 (l : Launch) (hl : l.stackTraces = false) {K : zK} {p : Program} {e : Env} {s : State} {m : MethodId} {below : List Frame} {meth : Method} {c : Code} {A : Nat → Prop} {Q : State → Prop} {ret9 : Option FieldType} {nm9 : String} {tb9 : List ExceptionTableEntry} {args : Array Value} {b L ii k9 n9 : Nat} {xs : Nat → Int32} (B : zF K p l s m args meth c A cL_law 7 RL nm9 wsL_law ret9 tb9) (hX : va_X b L xs s s.heap) (hbl : b < s.heap.size) (hbA : ¬ A b) (hL : L ≤ 2048) (h4L : ii + 4 ≤ L) (hk9 : k9 + 16 ≤ 601024) (hn9 : n9 + 512 ≤ 7293034) {ax sa ao : Nat} {az ak tk tc am : Nat → Nat}
    (next : ∀ (n : Nat) (f : Nat → Option Nat) (so : Nat → Nat) (sc : Nat → Nat → Nat) (X : Nat → Int32) (Z : Nat → Nat → Int32) (W : Nat → Int32) (D : Nat → Nat → Int32) (Cs : Nat → Nat → Nat → Int32) (F : Nat → Int32) (O : Nat → Int32) (Ft : Nat → Int32) (Ot : Nat → Int32) (Tc : Nat → Nat → Int32) (I : Nat → Int32) (R : Nat → Nat → Int32) (g : Nat → Int64), rR n X Z W D Cs O I R → (∀ a, a < n → f a = some (so a)) → (∀ a, n ≤ a → a < 4 → f a = none) → zW K p l e zR s m args below meth c A Q (k9 + 16) (n9 + 512) (zFu K ax sa ao az ak tk tc am n f so sc X Z W D Cs F O Ft Ot Tc I R g) [(0, .ref b), (1, .ref ax), (2, .ref (am 0)), (3, .ref ao), (4, .int (nI ii))] [] 1428) : ∀ (n : Nat) (f : Nat → Option Nat) (so : Nat → Nat) (sc : Nat → Nat → Nat) (X : Nat → Int32) (Z : Nat → Nat → Int32) (W : Nat → Int32) (D : Nat → Nat → Int32) (Cs : Nat → Nat → Nat → Int32) (F : Nat → Int32) (O : Nat → Int32) (Ft : Nat → Int32) (Ot : Nat → Int32) (Tc : Nat → Nat → Int32) (I : Nat → Int32) (R : Nat → Nat → Int32) (g : Nat → Int64), rR n X Z W D Cs O I R → (∀ a, a < n → f a = some (so a)) → (∀ a, n ≤ a → a < 4 → f a = none) → zW K p l e zR s m args below meth c A Q k9 n9 (zFu K ax sa ao az ak tk tc am n f so sc X Z W D Cs F O Ft Ot Tc I R g) [(0, .ref b), (1, .ref ax), (2, .ref (am 0)), (3, .ref ao), (4, .int (nI ii))] [.int (nI 18)] 39 := by
  intro n f so sc X Z W D Cs F O Ft Ot Tc I R g hS hf1 hf2
  have hn4 := hS.1.2.1
  have h5 : ¬ (I 5) < 0 := by rw [hS.1.1]; exact nI_pos (by omega)
  have h6 : (I 5).toNatClampNeg ≤ 4 := by rw [hS.1.1, nI_clamp (by omega)]; exact hn4
  have hZ := hS.2.1.zw
  have hC := hS.2.2.2.1.1
  have h4 := hS.2.1.2.2.2
  have hW4 : (W 4) = 0 ∨ (W 4) = 1 := by rw [hS.2.1.2.2.1]; exact h4
  have h16 := hS.2.2.1.2.2.2.2.2.2.2.2.2.2.2
  have hO5 : (O 5) = 0 ∨ (O 5) = 1 := by rw [hS.2.2.1.2.2.2.2.2.2.2.2.2.2.1]; exact h16
  have hX2 := hS.2.2.1.1
  have hon := hS.1.2.2.2
  have hD3 : ∀ i, i < n → (D i 3) = 0 ∨ (D i 3) = 1 := fun i hi => by rw [(hS.1.2.2.1 i hi).2.2.1]; exact hon i
  have i01 : (0 : Int32) = 0 ∨ (0 : Int32) = 1 := Or.inl rfl
  have i11 : (1 : Int32) = 0 ∨ (1 : Int32) = 1 := Or.inr rfl
  obtain ⟨x1, hv1⟩ : ∃ x1, xs (nI ii + 1).toNatClampNeg = x1 := ⟨_, rfl⟩
  obtain ⟨x2, hv2⟩ : ∃ x2, xs (nI ii + 2).toNatClampNeg = x2 := ⟨_, rfl⟩
  obtain ⟨x3, hv3⟩ : ∃ x3, xs (nI ii + 3).toNatClampNeg = x3 := ⟨_, rfl⟩
  have site : (∃ i, i < n ∧ x1 = nI i) ∨ (∀ i, i < n → x1 ≠ nI i) := by
    by_cases h : ∃ i, i < n ∧ x1 = nI i
    · exact Or.inl h
    · exact Or.inr fun i hi q => h ⟨i, hi, q⟩
  have near : fX4_near n D x1 = none ∨ ∃ i, i < n ∧ fX4_near n D x1 = some i := z_nearLt n D x1
  have miss : (∀ i, i < n → x1 ≠ nI i) → x1 < 4 → ¬ x1 < 0 → f x1.toNatClampNeg = none := by
    intro hm q1 q2
    obtain ⟨j, hj, rfl⟩ := nI_of q2
    have hj4 : j < 4 := (nI_ltI (b := 4) hj (by decide)).mp q1
    rw [nI_clamp hj]
    exact hf2 j (Nat.le_of_not_lt fun q => hm j q rfl) hj4
  · rcases site with ⟨i, hi, ei⟩ | hm
    · rw [ei] at hv1
      refine z_tsI B 1035 dL_law_39 (by decide) (by decide) rfl rfl ?_
      refine z_perm (bs' := zFi K ax sa ao az ak tk tc am n f so sc X Z W D Cs i (Cs i) F O Ft Ot Tc I R g) (zFi_of hi) ?_
      refine z_to (bc := [zXo ax (az 0) sa (ak 0) (tk 0) (tc 0) X, zSa K sa f, zSO n so sc D, zCa K (sc i) (Cs i), zOu K ao g, zMo K am I R]) (br := [zZo K az Z W, zCo K ak F O, zCo K tk Ft Ot, zCa K tc Tc, zSX K n sc Cs i]) [0, 2, 3, 4, 9, 8] [1, 5, 6, 7, 10] (zsp rfl rfl rfl) ?_
      refine aL_entries_h l hl K ax (az 0) sa (ak 0) (tk 0) (tc 0) X f n so sc D i (Cs i) ao g am I R (by omega) hi (z_fcl hf1 hi (by omega)) h5 h6 ([zZo K az Z W, zCo K ak F O, zCo K tk Ft Ot, zCa K tc Tc, zSX K n sc Cs i] : zB).flatten (q_entries_h hS hi).1 B hX hbl hbA (r_hi hL h4L (k := 1) (by decide)) hv1 (by omega) (by omega) ?_
      refine z_fro (bs := zFi K ax sa ao az ak tk tc am n f so sc X Z W D Cs i (Cs i) F O Ft Ot Tc ((fX5_entries I R (nI i)).2) R ((fL_entries_h D i (Cs i) g).2)) (bc := [zXo ax (az 0) sa (ak 0) (tk 0) (tc 0) X, zSa K sa f, zSO n so sc D, zCa K (sc i) (Cs i), zOu K ao ((fL_entries_h D i (Cs i) g).2), zMo K am ((fX5_entries I R (nI i)).2) R]) (br := [zZo K az Z W, zCo K ak F O, zCo K tk Ft Ot, zCa K tc Tc, zSX K n sc Cs i]) [0, 2, 3, 4, 9, 8] [1, 5, 6, 7, 10] (zsp rfl rfl rfl) ?_
      refine z_perm (bs' := zFu K ax sa ao az ak tk tc am n f so sc X Z W D Cs F O Ft Ot Tc ((fX5_entries I R (nI i)).2) R ((fL_entries_h D i (Cs i) g).2)) (zFi_of hi).symm ?_
      exact next n f so sc X Z W D Cs F O Ft Ot Tc ((fX5_entries I R (nI i)).2) R ((fL_entries_h D i (Cs i) g).2) (q_entries_h hS hi).2 hf1 hf2
    · have hfn := miss hm
      refine z_tsI B 1035 dL_law_39 (by decide) (by decide) rfl rfl ?_
      refine z_to (bc := [zXo ax (az 0) sa (ak 0) (tk 0) (tc 0) X, zSa K sa f, zOu K ao g, zMo K am I R]) (br := [zZo K az Z W, zSO n so sc D, zSC K n sc Cs, zCo K ak F O, zCo K tk Ft Ot, zCa K tc Tc]) [0, 2, 9, 8] [1, 3, 4, 5, 6, 7] (zsp rfl rfl rfl) ?_
      refine aL_entries_m l hl K ax (az 0) sa (ak 0) (tk 0) (tc 0) X f x1 ao g am I R hfn h5 h6 ([zZo K az Z W, zSO n so sc D, zSC K n sc Cs, zCo K ak F O, zCo K tk Ft Ot, zCa K tc Tc] : zB).flatten (q_entries_m hS hm).1 B hX hbl hbA (r_hi hL h4L (k := 1) (by decide)) hv1 (by omega) (by omega) ?_
      refine z_fro (bs := zFu K ax sa ao az ak tk tc am n f so sc X Z W D Cs F O Ft Ot Tc ((fX5_entries I R x1).2) R g) (bc := [zXo ax (az 0) sa (ak 0) (tk 0) (tc 0) X, zSa K sa f, zOu K ao g, zMo K am ((fX5_entries I R x1).2) R]) (br := [zZo K az Z W, zSO n so sc D, zSC K n sc Cs, zCo K ak F O, zCo K tk Ft Ot, zCa K tc Tc]) [0, 2, 9, 8] [1, 3, 4, 5, 6, 7] (zsp rfl rfl rfl) ?_
      exact next n f so sc X Z W D Cs F O Ft Ot Tc ((fX5_entries I R x1).2) R g (q_entries_m hS hm).2 hf1 hf2
set_option maxHeartbeats 8000000 in
set_option maxRecDepth 100000 in
theorem law_op19 (l : Launch) (hl : l.stackTraces = false) {K : zK} {p : Program} {e : Env} {s : State} {m : MethodId} {below : List Frame} {meth : Method} {c : Code} {A : Nat → Prop} {Q : State → Prop} {ret9 : Option FieldType} {nm9 : String} {tb9 : List ExceptionTableEntry} {args : Array Value} {b L ii k9 n9 : Nat} {xs : Nat → Int32} (B : zF K p l s m args meth c A cL_law 7 RL nm9 wsL_law ret9 tb9) (hX : va_X b L xs s s.heap) (hbl : b < s.heap.size) (hbA : ¬ A b) (hL : L ≤ 2048) (h4L : ii + 4 ≤ L) (hk9 : k9 + 16 ≤ 601024) (hn9 : n9 + 512 ≤ 7293034) {ax sa ao : Nat} {az ak tk tc am : Nat → Nat}
    (next : ∀ (n : Nat) (f : Nat → Option Nat) (so : Nat → Nat) (sc : Nat → Nat → Nat) (X : Nat → Int32) (Z : Nat → Nat → Int32) (W : Nat → Int32) (D : Nat → Nat → Int32) (Cs : Nat → Nat → Nat → Int32) (F : Nat → Int32) (O : Nat → Int32) (Ft : Nat → Int32) (Ot : Nat → Int32) (Tc : Nat → Nat → Int32) (I : Nat → Int32) (R : Nat → Nat → Int32) (g : Nat → Int64), rR n X Z W D Cs O I R → (∀ a, a < n → f a = some (so a)) → (∀ a, n ≤ a → a < 4 → f a = none) → zW K p l e zR s m args below meth c A Q (k9 + 16) (n9 + 512) (zFu K ax sa ao az ak tk tc am n f so sc X Z W D Cs F O Ft Ot Tc I R g) [(0, .ref b), (1, .ref ax), (2, .ref (am 0)), (3, .ref ao), (4, .int (nI ii))] [] 1428) : ∀ (n : Nat) (f : Nat → Option Nat) (so : Nat → Nat) (sc : Nat → Nat → Nat) (X : Nat → Int32) (Z : Nat → Nat → Int32) (W : Nat → Int32) (D : Nat → Nat → Int32) (Cs : Nat → Nat → Nat → Int32) (F : Nat → Int32) (O : Nat → Int32) (Ft : Nat → Int32) (Ot : Nat → Int32) (Tc : Nat → Nat → Int32) (I : Nat → Int32) (R : Nat → Nat → Int32) (g : Nat → Int64), rR n X Z W D Cs O I R → (∀ a, a < n → f a = some (so a)) → (∀ a, n ≤ a → a < 4 → f a = none) → zW K p l e zR s m args below meth c A Q k9 n9 (zFu K ax sa ao az ak tk tc am n f so sc X Z W D Cs F O Ft Ot Tc I R g) [(0, .ref b), (1, .ref ax), (2, .ref (am 0)), (3, .ref ao), (4, .int (nI ii))] [.int (nI 19)] 39 := by
  intro n f so sc X Z W D Cs F O Ft Ot Tc I R g hS hf1 hf2
  have hn4 := hS.1.2.1
  have h5 : ¬ (I 5) < 0 := by rw [hS.1.1]; exact nI_pos (by omega)
  have h6 : (I 5).toNatClampNeg ≤ 4 := by rw [hS.1.1, nI_clamp (by omega)]; exact hn4
  have hZ := hS.2.1.zw
  have hC := hS.2.2.2.1.1
  have h4 := hS.2.1.2.2.2
  have hW4 : (W 4) = 0 ∨ (W 4) = 1 := by rw [hS.2.1.2.2.1]; exact h4
  have h16 := hS.2.2.1.2.2.2.2.2.2.2.2.2.2.2
  have hO5 : (O 5) = 0 ∨ (O 5) = 1 := by rw [hS.2.2.1.2.2.2.2.2.2.2.2.2.2.1]; exact h16
  have hX2 := hS.2.2.1.1
  have hon := hS.1.2.2.2
  have hD3 : ∀ i, i < n → (D i 3) = 0 ∨ (D i 3) = 1 := fun i hi => by rw [(hS.1.2.2.1 i hi).2.2.1]; exact hon i
  have i01 : (0 : Int32) = 0 ∨ (0 : Int32) = 1 := Or.inl rfl
  have i11 : (1 : Int32) = 0 ∨ (1 : Int32) = 1 := Or.inr rfl
  obtain ⟨x1, hv1⟩ : ∃ x1, xs (nI ii + 1).toNatClampNeg = x1 := ⟨_, rfl⟩
  obtain ⟨x2, hv2⟩ : ∃ x2, xs (nI ii + 2).toNatClampNeg = x2 := ⟨_, rfl⟩
  obtain ⟨x3, hv3⟩ : ∃ x3, xs (nI ii + 3).toNatClampNeg = x3 := ⟨_, rfl⟩
  have site : (∃ i, i < n ∧ x1 = nI i) ∨ (∀ i, i < n → x1 ≠ nI i) := by
    by_cases h : ∃ i, i < n ∧ x1 = nI i
    · exact Or.inl h
    · exact Or.inr fun i hi q => h ⟨i, hi, q⟩
  have near : fX4_near n D x1 = none ∨ ∃ i, i < n ∧ fX4_near n D x1 = some i := z_nearLt n D x1
  have miss : (∀ i, i < n → x1 ≠ nI i) → x1 < 4 → ¬ x1 < 0 → f x1.toNatClampNeg = none := by
    intro hm q1 q2
    obtain ⟨j, hj, rfl⟩ := nI_of q2
    have hj4 : j < 4 := (nI_ltI (b := 4) hj (by decide)).mp q1
    rw [nI_clamp hj]
    exact hf2 j (Nat.le_of_not_lt fun q => hm j q rfl) hj4
  · rcases site with ⟨i, hi, ei⟩ | hm
    · rw [ei] at hv1
      refine z_tsI B 1091 dL_law_39 (by decide) (by decide) rfl rfl ?_
      refine z_perm (bs' := zFi K ax sa ao az ak tk tc am n f so sc X Z W D Cs i (Cs i) F O Ft Ot Tc I R g) (zFi_of hi) ?_
      refine z_to (bc := [zXo ax (az 0) sa (ak 0) (tk 0) (tc 0) X, zSa K sa f, zSO n so sc D, zCa K (sc i) (Cs i), zOu K ao g, zMo K am I R]) (br := [zZo K az Z W, zCo K ak F O, zCo K tk Ft Ot, zCa K tc Tc, zSX K n sc Cs i]) [0, 2, 3, 4, 9, 8] [1, 5, 6, 7, 10] (zsp rfl rfl rfl) ?_
      refine aL_cachedKind_h l hl K ax (az 0) sa (ak 0) (tk 0) (tc 0) X f n so sc D i (Cs i) x2 ao g am I R (by omega) hi (z_fcl hf1 hi (by omega)) h5 h6 ([zZo K az Z W, zCo K ak F O, zCo K tk Ft Ot, zCa K tc Tc, zSX K n sc Cs i] : zB).flatten (q_cachedKind_h hS hi).1 B hX hbl hbA (r_hi hL h4L (k := 1) (by decide)) hv1 (r_hi hL h4L (k := 2) (by decide)) hv2 (by omega) (by omega) ?_
      refine z_fro (bs := zFi K ax sa ao az ak tk tc am n f so sc X Z W D Cs i (Cs i) F O Ft Ot Tc ((fX5_cachedKind I R (nI i) x2).2) R ((fL_cachedKind_h D i (Cs i) x2 g).2)) (bc := [zXo ax (az 0) sa (ak 0) (tk 0) (tc 0) X, zSa K sa f, zSO n so sc D, zCa K (sc i) (Cs i), zOu K ao ((fL_cachedKind_h D i (Cs i) x2 g).2), zMo K am ((fX5_cachedKind I R (nI i) x2).2) R]) (br := [zZo K az Z W, zCo K ak F O, zCo K tk Ft Ot, zCa K tc Tc, zSX K n sc Cs i]) [0, 2, 3, 4, 9, 8] [1, 5, 6, 7, 10] (zsp rfl rfl rfl) ?_
      refine z_perm (bs' := zFu K ax sa ao az ak tk tc am n f so sc X Z W D Cs F O Ft Ot Tc ((fX5_cachedKind I R (nI i) x2).2) R ((fL_cachedKind_h D i (Cs i) x2 g).2)) (zFi_of hi).symm ?_
      exact next n f so sc X Z W D Cs F O Ft Ot Tc ((fX5_cachedKind I R (nI i) x2).2) R ((fL_cachedKind_h D i (Cs i) x2 g).2) (q_cachedKind_h hS hi).2 hf1 hf2
    · have hfn := miss hm
      refine z_tsI B 1091 dL_law_39 (by decide) (by decide) rfl rfl ?_
      refine z_to (bc := [zXo ax (az 0) sa (ak 0) (tk 0) (tc 0) X, zSa K sa f, zOu K ao g, zMo K am I R]) (br := [zZo K az Z W, zSO n so sc D, zSC K n sc Cs, zCo K ak F O, zCo K tk Ft Ot, zCa K tc Tc]) [0, 2, 9, 8] [1, 3, 4, 5, 6, 7] (zsp rfl rfl rfl) ?_
      refine aL_cachedKind_m l hl K ax (az 0) sa (ak 0) (tk 0) (tc 0) X f x1 x2 ao g am I R hfn h5 h6 ([zZo K az Z W, zSO n so sc D, zSC K n sc Cs, zCo K ak F O, zCo K tk Ft Ot, zCa K tc Tc] : zB).flatten (q_cachedKind_m hS hm).1 B hX hbl hbA (r_hi hL h4L (k := 1) (by decide)) hv1 (r_hi hL h4L (k := 2) (by decide)) hv2 (by omega) (by omega) ?_
      refine z_fro (bs := zFu K ax sa ao az ak tk tc am n f so sc X Z W D Cs F O Ft Ot Tc ((fX5_cachedKind I R x1 x2).2) R g) (bc := [zXo ax (az 0) sa (ak 0) (tk 0) (tc 0) X, zSa K sa f, zOu K ao g, zMo K am ((fX5_cachedKind I R x1 x2).2) R]) (br := [zZo K az Z W, zSO n so sc D, zSC K n sc Cs, zCo K ak F O, zCo K tk Ft Ot, zCa K tc Tc]) [0, 2, 9, 8] [1, 3, 4, 5, 6, 7] (zsp rfl rfl rfl) ?_
      exact next n f so sc X Z W D Cs F O Ft Ot Tc ((fX5_cachedKind I R x1 x2).2) R g (q_cachedKind_m hS hm).2 hf1 hf2
set_option maxHeartbeats 8000000 in
set_option maxRecDepth 100000 in
theorem law_op20 (l : Launch) (hl : l.stackTraces = false) {K : zK} {p : Program} {e : Env} {s : State} {m : MethodId} {below : List Frame} {meth : Method} {c : Code} {A : Nat → Prop} {Q : State → Prop} {ret9 : Option FieldType} {nm9 : String} {tb9 : List ExceptionTableEntry} {args : Array Value} {b L ii k9 n9 : Nat} {xs : Nat → Int32} (B : zF K p l s m args meth c A cL_law 7 RL nm9 wsL_law ret9 tb9) (hX : va_X b L xs s s.heap) (hbl : b < s.heap.size) (hbA : ¬ A b) (hL : L ≤ 2048) (h4L : ii + 4 ≤ L) (hk9 : k9 + 16 ≤ 601024) (hn9 : n9 + 512 ≤ 7293034) {ax sa ao : Nat} {az ak tk tc am : Nat → Nat}
    (next : ∀ (n : Nat) (f : Nat → Option Nat) (so : Nat → Nat) (sc : Nat → Nat → Nat) (X : Nat → Int32) (Z : Nat → Nat → Int32) (W : Nat → Int32) (D : Nat → Nat → Int32) (Cs : Nat → Nat → Nat → Int32) (F : Nat → Int32) (O : Nat → Int32) (Ft : Nat → Int32) (Ot : Nat → Int32) (Tc : Nat → Nat → Int32) (I : Nat → Int32) (R : Nat → Nat → Int32) (g : Nat → Int64), rR n X Z W D Cs O I R → (∀ a, a < n → f a = some (so a)) → (∀ a, n ≤ a → a < 4 → f a = none) → zW K p l e zR s m args below meth c A Q (k9 + 16) (n9 + 512) (zFu K ax sa ao az ak tk tc am n f so sc X Z W D Cs F O Ft Ot Tc I R g) [(0, .ref b), (1, .ref ax), (2, .ref (am 0)), (3, .ref ao), (4, .int (nI ii))] [] 1428) : ∀ (n : Nat) (f : Nat → Option Nat) (so : Nat → Nat) (sc : Nat → Nat → Nat) (X : Nat → Int32) (Z : Nat → Nat → Int32) (W : Nat → Int32) (D : Nat → Nat → Int32) (Cs : Nat → Nat → Nat → Int32) (F : Nat → Int32) (O : Nat → Int32) (Ft : Nat → Int32) (Ot : Nat → Int32) (Tc : Nat → Nat → Int32) (I : Nat → Int32) (R : Nat → Nat → Int32) (g : Nat → Int64), rR n X Z W D Cs O I R → (∀ a, a < n → f a = some (so a)) → (∀ a, n ≤ a → a < 4 → f a = none) → zW K p l e zR s m args below meth c A Q k9 n9 (zFu K ax sa ao az ak tk tc am n f so sc X Z W D Cs F O Ft Ot Tc I R g) [(0, .ref b), (1, .ref ax), (2, .ref (am 0)), (3, .ref ao), (4, .int (nI ii))] [.int (nI 20)] 39 := by
  intro n f so sc X Z W D Cs F O Ft Ot Tc I R g hS hf1 hf2
  have hn4 := hS.1.2.1
  have h5 : ¬ (I 5) < 0 := by rw [hS.1.1]; exact nI_pos (by omega)
  have h6 : (I 5).toNatClampNeg ≤ 4 := by rw [hS.1.1, nI_clamp (by omega)]; exact hn4
  have hZ := hS.2.1.zw
  have hC := hS.2.2.2.1.1
  have h4 := hS.2.1.2.2.2
  have hW4 : (W 4) = 0 ∨ (W 4) = 1 := by rw [hS.2.1.2.2.1]; exact h4
  have h16 := hS.2.2.1.2.2.2.2.2.2.2.2.2.2.2
  have hO5 : (O 5) = 0 ∨ (O 5) = 1 := by rw [hS.2.2.1.2.2.2.2.2.2.2.2.2.2.1]; exact h16
  have hX2 := hS.2.2.1.1
  have hon := hS.1.2.2.2
  have hD3 : ∀ i, i < n → (D i 3) = 0 ∨ (D i 3) = 1 := fun i hi => by rw [(hS.1.2.2.1 i hi).2.2.1]; exact hon i
  have i01 : (0 : Int32) = 0 ∨ (0 : Int32) = 1 := Or.inl rfl
  have i11 : (1 : Int32) = 0 ∨ (1 : Int32) = 1 := Or.inr rfl
  obtain ⟨x1, hv1⟩ : ∃ x1, xs (nI ii + 1).toNatClampNeg = x1 := ⟨_, rfl⟩
  obtain ⟨x2, hv2⟩ : ∃ x2, xs (nI ii + 2).toNatClampNeg = x2 := ⟨_, rfl⟩
  obtain ⟨x3, hv3⟩ : ∃ x3, xs (nI ii + 3).toNatClampNeg = x3 := ⟨_, rfl⟩
  have site : (∃ i, i < n ∧ x1 = nI i) ∨ (∀ i, i < n → x1 ≠ nI i) := by
    by_cases h : ∃ i, i < n ∧ x1 = nI i
    · exact Or.inl h
    · exact Or.inr fun i hi q => h ⟨i, hi, q⟩
  have near : fX4_near n D x1 = none ∨ ∃ i, i < n ∧ fX4_near n D x1 = some i := z_nearLt n D x1
  have miss : (∀ i, i < n → x1 ≠ nI i) → x1 < 4 → ¬ x1 < 0 → f x1.toNatClampNeg = none := by
    intro hm q1 q2
    obtain ⟨j, hj, rfl⟩ := nI_of q2
    have hj4 : j < 4 := (nI_ltI (b := 4) hj (by decide)).mp q1
    rw [nI_clamp hj]
    exact hf2 j (Nat.le_of_not_lt fun q => hm j q rfl) hj4
  · rcases site with ⟨i, hi, ei⟩ | hm
    · rw [ei] at hv1
      refine z_tsI B 1159 dL_law_39 (by decide) (by decide) rfl rfl ?_
      refine z_perm (bs' := zFi K ax sa ao az ak tk tc am n f so sc X Z W D Cs i (Cs i) F O Ft Ot Tc I R g) (zFi_of hi) ?_
      refine z_to (bc := [zXo ax (az 0) sa (ak 0) (tk 0) (tc 0) X, zSa K sa f, zSO n so sc D, zCa K (sc i) (Cs i), zOu K ao g, zMo K am I R]) (br := [zZo K az Z W, zCo K ak F O, zCo K tk Ft Ot, zCa K tc Tc, zSX K n sc Cs i]) [0, 2, 3, 4, 9, 8] [1, 5, 6, 7, 10] (zsp rfl rfl rfl) ?_
      refine aL_cachedValue_h l hl K ax (az 0) sa (ak 0) (tk 0) (tc 0) X f n so sc D i (Cs i) x2 ao g am I R (by omega) hi (z_fcl hf1 hi (by omega)) h5 h6 ([zZo K az Z W, zCo K ak F O, zCo K tk Ft Ot, zCa K tc Tc, zSX K n sc Cs i] : zB).flatten (q_cachedValue_h hS hi).1 B hX hbl hbA (r_hi hL h4L (k := 1) (by decide)) hv1 (r_hi hL h4L (k := 2) (by decide)) hv2 (by omega) (by omega) ?_
      refine z_fro (bs := zFi K ax sa ao az ak tk tc am n f so sc X Z W D Cs i (Cs i) F O Ft Ot Tc ((fX5_cachedValue I R (nI i) x2).2) R ((fL_cachedValue_h D i (Cs i) x2 g).2)) (bc := [zXo ax (az 0) sa (ak 0) (tk 0) (tc 0) X, zSa K sa f, zSO n so sc D, zCa K (sc i) (Cs i), zOu K ao ((fL_cachedValue_h D i (Cs i) x2 g).2), zMo K am ((fX5_cachedValue I R (nI i) x2).2) R]) (br := [zZo K az Z W, zCo K ak F O, zCo K tk Ft Ot, zCa K tc Tc, zSX K n sc Cs i]) [0, 2, 3, 4, 9, 8] [1, 5, 6, 7, 10] (zsp rfl rfl rfl) ?_
      refine z_perm (bs' := zFu K ax sa ao az ak tk tc am n f so sc X Z W D Cs F O Ft Ot Tc ((fX5_cachedValue I R (nI i) x2).2) R ((fL_cachedValue_h D i (Cs i) x2 g).2)) (zFi_of hi).symm ?_
      exact next n f so sc X Z W D Cs F O Ft Ot Tc ((fX5_cachedValue I R (nI i) x2).2) R ((fL_cachedValue_h D i (Cs i) x2 g).2) (q_cachedValue_h hS hi).2 hf1 hf2
    · have hfn := miss hm
      refine z_tsI B 1159 dL_law_39 (by decide) (by decide) rfl rfl ?_
      refine z_to (bc := [zXo ax (az 0) sa (ak 0) (tk 0) (tc 0) X, zSa K sa f, zOu K ao g, zMo K am I R]) (br := [zZo K az Z W, zSO n so sc D, zSC K n sc Cs, zCo K ak F O, zCo K tk Ft Ot, zCa K tc Tc]) [0, 2, 9, 8] [1, 3, 4, 5, 6, 7] (zsp rfl rfl rfl) ?_
      refine aL_cachedValue_m l hl K ax (az 0) sa (ak 0) (tk 0) (tc 0) X f x1 x2 ao g am I R hfn h5 h6 ([zZo K az Z W, zSO n so sc D, zSC K n sc Cs, zCo K ak F O, zCo K tk Ft Ot, zCa K tc Tc] : zB).flatten (q_cachedValue_m hS hm).1 B hX hbl hbA (r_hi hL h4L (k := 1) (by decide)) hv1 (r_hi hL h4L (k := 2) (by decide)) hv2 (by omega) (by omega) ?_
      refine z_fro (bs := zFu K ax sa ao az ak tk tc am n f so sc X Z W D Cs F O Ft Ot Tc ((fX5_cachedValue I R x1 x2).2) R g) (bc := [zXo ax (az 0) sa (ak 0) (tk 0) (tc 0) X, zSa K sa f, zOu K ao g, zMo K am ((fX5_cachedValue I R x1 x2).2) R]) (br := [zZo K az Z W, zSO n so sc D, zSC K n sc Cs, zCo K ak F O, zCo K tk Ft Ot, zCa K tc Tc]) [0, 2, 9, 8] [1, 3, 4, 5, 6, 7] (zsp rfl rfl rfl) ?_
      exact next n f so sc X Z W D Cs F O Ft Ot Tc ((fX5_cachedValue I R x1 x2).2) R g (q_cachedValue_m hS hm).2 hf1 hf2
set_option maxHeartbeats 8000000 in
set_option maxRecDepth 100000 in
theorem law_op21 (l : Launch) (hl : l.stackTraces = false) {K : zK} {p : Program} {e : Env} {s : State} {m : MethodId} {below : List Frame} {meth : Method} {c : Code} {A : Nat → Prop} {Q : State → Prop} {ret9 : Option FieldType} {nm9 : String} {tb9 : List ExceptionTableEntry} {args : Array Value} {b L ii k9 n9 : Nat} {xs : Nat → Int32} (B : zF K p l s m args meth c A cL_law 7 RL nm9 wsL_law ret9 tb9) (hX : va_X b L xs s s.heap) (hbl : b < s.heap.size) (hbA : ¬ A b) (hL : L ≤ 2048) (h4L : ii + 4 ≤ L) (hk9 : k9 + 16 ≤ 601024) (hn9 : n9 + 512 ≤ 7293034) {ax sa ao : Nat} {az ak tk tc am : Nat → Nat}
    (next : ∀ (n : Nat) (f : Nat → Option Nat) (so : Nat → Nat) (sc : Nat → Nat → Nat) (X : Nat → Int32) (Z : Nat → Nat → Int32) (W : Nat → Int32) (D : Nat → Nat → Int32) (Cs : Nat → Nat → Nat → Int32) (F : Nat → Int32) (O : Nat → Int32) (Ft : Nat → Int32) (Ot : Nat → Int32) (Tc : Nat → Nat → Int32) (I : Nat → Int32) (R : Nat → Nat → Int32) (g : Nat → Int64), rR n X Z W D Cs O I R → (∀ a, a < n → f a = some (so a)) → (∀ a, n ≤ a → a < 4 → f a = none) → zW K p l e zR s m args below meth c A Q (k9 + 16) (n9 + 512) (zFu K ax sa ao az ak tk tc am n f so sc X Z W D Cs F O Ft Ot Tc I R g) [(0, .ref b), (1, .ref ax), (2, .ref (am 0)), (3, .ref ao), (4, .int (nI ii))] [] 1428) : ∀ (n : Nat) (f : Nat → Option Nat) (so : Nat → Nat) (sc : Nat → Nat → Nat) (X : Nat → Int32) (Z : Nat → Nat → Int32) (W : Nat → Int32) (D : Nat → Nat → Int32) (Cs : Nat → Nat → Nat → Int32) (F : Nat → Int32) (O : Nat → Int32) (Ft : Nat → Int32) (Ot : Nat → Int32) (Tc : Nat → Nat → Int32) (I : Nat → Int32) (R : Nat → Nat → Int32) (g : Nat → Int64), rR n X Z W D Cs O I R → (∀ a, a < n → f a = some (so a)) → (∀ a, n ≤ a → a < 4 → f a = none) → zW K p l e zR s m args below meth c A Q k9 n9 (zFu K ax sa ao az ak tk tc am n f so sc X Z W D Cs F O Ft Ot Tc I R g) [(0, .ref b), (1, .ref ax), (2, .ref (am 0)), (3, .ref ao), (4, .int (nI ii))] [.int (nI 21)] 39 := by
  intro n f so sc X Z W D Cs F O Ft Ot Tc I R g hS hf1 hf2
  have hn4 := hS.1.2.1
  have h5 : ¬ (I 5) < 0 := by rw [hS.1.1]; exact nI_pos (by omega)
  have h6 : (I 5).toNatClampNeg ≤ 4 := by rw [hS.1.1, nI_clamp (by omega)]; exact hn4
  have hZ := hS.2.1.zw
  have hC := hS.2.2.2.1.1
  have h4 := hS.2.1.2.2.2
  have hW4 : (W 4) = 0 ∨ (W 4) = 1 := by rw [hS.2.1.2.2.1]; exact h4
  have h16 := hS.2.2.1.2.2.2.2.2.2.2.2.2.2.2
  have hO5 : (O 5) = 0 ∨ (O 5) = 1 := by rw [hS.2.2.1.2.2.2.2.2.2.2.2.2.2.1]; exact h16
  have hX2 := hS.2.2.1.1
  have hon := hS.1.2.2.2
  have hD3 : ∀ i, i < n → (D i 3) = 0 ∨ (D i 3) = 1 := fun i hi => by rw [(hS.1.2.2.1 i hi).2.2.1]; exact hon i
  have i01 : (0 : Int32) = 0 ∨ (0 : Int32) = 1 := Or.inl rfl
  have i11 : (1 : Int32) = 0 ∨ (1 : Int32) = 1 := Or.inr rfl
  obtain ⟨x1, hv1⟩ : ∃ x1, xs (nI ii + 1).toNatClampNeg = x1 := ⟨_, rfl⟩
  obtain ⟨x2, hv2⟩ : ∃ x2, xs (nI ii + 2).toNatClampNeg = x2 := ⟨_, rfl⟩
  obtain ⟨x3, hv3⟩ : ∃ x3, xs (nI ii + 3).toNatClampNeg = x3 := ⟨_, rfl⟩
  have site : (∃ i, i < n ∧ x1 = nI i) ∨ (∀ i, i < n → x1 ≠ nI i) := by
    by_cases h : ∃ i, i < n ∧ x1 = nI i
    · exact Or.inl h
    · exact Or.inr fun i hi q => h ⟨i, hi, q⟩
  have near : fX4_near n D x1 = none ∨ ∃ i, i < n ∧ fX4_near n D x1 = some i := z_nearLt n D x1
  have miss : (∀ i, i < n → x1 ≠ nI i) → x1 < 4 → ¬ x1 < 0 → f x1.toNatClampNeg = none := by
    intro hm q1 q2
    obtain ⟨j, hj, rfl⟩ := nI_of q2
    have hj4 : j < 4 := (nI_ltI (b := 4) hj (by decide)).mp q1
    rw [nI_clamp hj]
    exact hf2 j (Nat.le_of_not_lt fun q => hm j q rfl) hj4
  · rcases site with ⟨i, hi, ei⟩ | hm
    · rw [ei] at hv1
      refine z_tsI B 1227 dL_law_39 (by decide) (by decide) rfl rfl ?_
      refine z_perm (bs' := zFi K ax sa ao az ak tk tc am n f so sc X Z W D Cs i (Cs i) F O Ft Ot Tc I R g) (zFi_of hi) ?_
      refine z_to (bc := [zXo ax (az 0) sa (ak 0) (tk 0) (tc 0) X, zSa K sa f, zSO n so sc D, zCa K (sc i) (Cs i), zOu K ao g, zMo K am I R]) (br := [zZo K az Z W, zCo K ak F O, zCo K tk Ft Ot, zCa K tc Tc, zSX K n sc Cs i]) [0, 2, 3, 4, 9, 8] [1, 5, 6, 7, 10] (zsp rfl rfl rfl) ?_
      refine aL_left_h l hl K ax (az 0) sa (ak 0) (tk 0) (tc 0) X f n so sc D i (Cs i) x2 ao g am I R (by omega) hi (z_fcl hf1 hi (by omega)) h5 h6 ([zZo K az Z W, zCo K ak F O, zCo K tk Ft Ot, zCa K tc Tc, zSX K n sc Cs i] : zB).flatten (q_left_h hS hi).1 B hX hbl hbA (r_hi hL h4L (k := 1) (by decide)) hv1 (r_hi hL h4L (k := 2) (by decide)) hv2 (by omega) (by omega) ?_
      refine z_fro (bs := zFi K ax sa ao az ak tk tc am n f so sc X Z W D Cs i (Cs i) F O Ft Ot Tc ((fX5_left I R (nI i) x2).2) R ((fL_left_h X D i (Cs i) x2 g).2)) (bc := [zXo ax (az 0) sa (ak 0) (tk 0) (tc 0) X, zSa K sa f, zSO n so sc D, zCa K (sc i) (Cs i), zOu K ao ((fL_left_h X D i (Cs i) x2 g).2), zMo K am ((fX5_left I R (nI i) x2).2) R]) (br := [zZo K az Z W, zCo K ak F O, zCo K tk Ft Ot, zCa K tc Tc, zSX K n sc Cs i]) [0, 2, 3, 4, 9, 8] [1, 5, 6, 7, 10] (zsp rfl rfl rfl) ?_
      refine z_perm (bs' := zFu K ax sa ao az ak tk tc am n f so sc X Z W D Cs F O Ft Ot Tc ((fX5_left I R (nI i) x2).2) R ((fL_left_h X D i (Cs i) x2 g).2)) (zFi_of hi).symm ?_
      exact next n f so sc X Z W D Cs F O Ft Ot Tc ((fX5_left I R (nI i) x2).2) R ((fL_left_h X D i (Cs i) x2 g).2) (q_left_h hS hi).2 hf1 hf2
    · have hfn := miss hm
      refine z_tsI B 1227 dL_law_39 (by decide) (by decide) rfl rfl ?_
      refine z_to (bc := [zXo ax (az 0) sa (ak 0) (tk 0) (tc 0) X, zSa K sa f, zOu K ao g, zMo K am I R]) (br := [zZo K az Z W, zSO n so sc D, zSC K n sc Cs, zCo K ak F O, zCo K tk Ft Ot, zCa K tc Tc]) [0, 2, 9, 8] [1, 3, 4, 5, 6, 7] (zsp rfl rfl rfl) ?_
      refine aL_left_m l hl K ax (az 0) sa (ak 0) (tk 0) (tc 0) X f x1 x2 ao g am I R hfn h5 h6 ([zZo K az Z W, zSO n so sc D, zSC K n sc Cs, zCo K ak F O, zCo K tk Ft Ot, zCa K tc Tc] : zB).flatten (q_left_m hS hm).1 B hX hbl hbA (r_hi hL h4L (k := 1) (by decide)) hv1 (r_hi hL h4L (k := 2) (by decide)) hv2 (by omega) (by omega) ?_
      refine z_fro (bs := zFu K ax sa ao az ak tk tc am n f so sc X Z W D Cs F O Ft Ot Tc ((fX5_left I R x1 x2).2) R g) (bc := [zXo ax (az 0) sa (ak 0) (tk 0) (tc 0) X, zSa K sa f, zOu K ao g, zMo K am ((fX5_left I R x1 x2).2) R]) (br := [zZo K az Z W, zSO n so sc D, zSC K n sc Cs, zCo K ak F O, zCo K tk Ft Ot, zCa K tc Tc]) [0, 2, 9, 8] [1, 3, 4, 5, 6, 7] (zsp rfl rfl rfl) ?_
      exact next n f so sc X Z W D Cs F O Ft Ot Tc ((fX5_left I R x1 x2).2) R g (q_left_m hS hm).2 hf1 hf2
set_option maxHeartbeats 8000000 in
set_option maxRecDepth 100000 in
theorem law_op22 (l : Launch) (hl : l.stackTraces = false) {K : zK} {p : Program} {e : Env} {s : State} {m : MethodId} {below : List Frame} {meth : Method} {c : Code} {A : Nat → Prop} {Q : State → Prop} {ret9 : Option FieldType} {nm9 : String} {tb9 : List ExceptionTableEntry} {args : Array Value} {b L ii k9 n9 : Nat} {xs : Nat → Int32} (B : zF K p l s m args meth c A cL_law 7 RL nm9 wsL_law ret9 tb9) (hX : va_X b L xs s s.heap) (hbl : b < s.heap.size) (hbA : ¬ A b) (hL : L ≤ 2048) (h4L : ii + 4 ≤ L) (hk9 : k9 + 16 ≤ 601024) (hn9 : n9 + 512 ≤ 7293034) {ax sa ao : Nat} {az ak tk tc am : Nat → Nat}
    (next : ∀ (n : Nat) (f : Nat → Option Nat) (so : Nat → Nat) (sc : Nat → Nat → Nat) (X : Nat → Int32) (Z : Nat → Nat → Int32) (W : Nat → Int32) (D : Nat → Nat → Int32) (Cs : Nat → Nat → Nat → Int32) (F : Nat → Int32) (O : Nat → Int32) (Ft : Nat → Int32) (Ot : Nat → Int32) (Tc : Nat → Nat → Int32) (I : Nat → Int32) (R : Nat → Nat → Int32) (g : Nat → Int64), rR n X Z W D Cs O I R → (∀ a, a < n → f a = some (so a)) → (∀ a, n ≤ a → a < 4 → f a = none) → zW K p l e zR s m args below meth c A Q (k9 + 16) (n9 + 512) (zFu K ax sa ao az ak tk tc am n f so sc X Z W D Cs F O Ft Ot Tc I R g) [(0, .ref b), (1, .ref ax), (2, .ref (am 0)), (3, .ref ao), (4, .int (nI ii))] [] 1428) : ∀ (n : Nat) (f : Nat → Option Nat) (so : Nat → Nat) (sc : Nat → Nat → Nat) (X : Nat → Int32) (Z : Nat → Nat → Int32) (W : Nat → Int32) (D : Nat → Nat → Int32) (Cs : Nat → Nat → Nat → Int32) (F : Nat → Int32) (O : Nat → Int32) (Ft : Nat → Int32) (Ot : Nat → Int32) (Tc : Nat → Nat → Int32) (I : Nat → Int32) (R : Nat → Nat → Int32) (g : Nat → Int64), rR n X Z W D Cs O I R → (∀ a, a < n → f a = some (so a)) → (∀ a, n ≤ a → a < 4 → f a = none) → zW K p l e zR s m args below meth c A Q k9 n9 (zFu K ax sa ao az ak tk tc am n f so sc X Z W D Cs F O Ft Ot Tc I R g) [(0, .ref b), (1, .ref ax), (2, .ref (am 0)), (3, .ref ao), (4, .int (nI ii))] [.int (nI 22)] 39 := by
  intro n f so sc X Z W D Cs F O Ft Ot Tc I R g hS hf1 hf2
  have hn4 := hS.1.2.1
  have h5 : ¬ (I 5) < 0 := by rw [hS.1.1]; exact nI_pos (by omega)
  have h6 : (I 5).toNatClampNeg ≤ 4 := by rw [hS.1.1, nI_clamp (by omega)]; exact hn4
  have hZ := hS.2.1.zw
  have hC := hS.2.2.2.1.1
  have h4 := hS.2.1.2.2.2
  have hW4 : (W 4) = 0 ∨ (W 4) = 1 := by rw [hS.2.1.2.2.1]; exact h4
  have h16 := hS.2.2.1.2.2.2.2.2.2.2.2.2.2.2
  have hO5 : (O 5) = 0 ∨ (O 5) = 1 := by rw [hS.2.2.1.2.2.2.2.2.2.2.2.2.2.1]; exact h16
  have hX2 := hS.2.2.1.1
  have hon := hS.1.2.2.2
  have hD3 : ∀ i, i < n → (D i 3) = 0 ∨ (D i 3) = 1 := fun i hi => by rw [(hS.1.2.2.1 i hi).2.2.1]; exact hon i
  have i01 : (0 : Int32) = 0 ∨ (0 : Int32) = 1 := Or.inl rfl
  have i11 : (1 : Int32) = 0 ∨ (1 : Int32) = 1 := Or.inr rfl
  obtain ⟨x1, hv1⟩ : ∃ x1, xs (nI ii + 1).toNatClampNeg = x1 := ⟨_, rfl⟩
  obtain ⟨x2, hv2⟩ : ∃ x2, xs (nI ii + 2).toNatClampNeg = x2 := ⟨_, rfl⟩
  obtain ⟨x3, hv3⟩ : ∃ x3, xs (nI ii + 3).toNatClampNeg = x3 := ⟨_, rfl⟩
  have site : (∃ i, i < n ∧ x1 = nI i) ∨ (∀ i, i < n → x1 ≠ nI i) := by
    by_cases h : ∃ i, i < n ∧ x1 = nI i
    · exact Or.inl h
    · exact Or.inr fun i hi q => h ⟨i, hi, q⟩
  have near : fX4_near n D x1 = none ∨ ∃ i, i < n ∧ fX4_near n D x1 = some i := z_nearLt n D x1
  have miss : (∀ i, i < n → x1 ≠ nI i) → x1 < 4 → ¬ x1 < 0 → f x1.toNatClampNeg = none := by
    intro hm q1 q2
    obtain ⟨j, hj, rfl⟩ := nI_of q2
    have hj4 : j < 4 := (nI_ltI (b := 4) hj (by decide)).mp q1
    rw [nI_clamp hj]
    exact hf2 j (Nat.le_of_not_lt fun q => hm j q rfl) hj4
  · rcases site with ⟨i, hi, ei⟩ | hm
    · rw [ei] at hv1
      refine z_tsI B 1295 dL_law_39 (by decide) (by decide) rfl rfl ?_
      refine z_perm (bs' := zFi K ax sa ao az ak tk tc am n f so sc X Z W D Cs i (Cs i) F O Ft Ot Tc I R g) (zFi_of hi) ?_
      refine z_to (bc := [zXo ax (az 0) sa (ak 0) (tk 0) (tc 0) X, zSa K sa f, zSO n so sc D, zCa K (sc i) (Cs i), zOu K ao g, zMo K am I R]) (br := [zZo K az Z W, zCo K ak F O, zCo K tk Ft Ot, zCa K tc Tc, zSX K n sc Cs i]) [0, 2, 3, 4, 9, 8] [1, 5, 6, 7, 10] (zsp rfl rfl rfl) ?_
      refine aL_hitsOf_h l hl K ax (az 0) sa (ak 0) (tk 0) (tc 0) X f n so sc D i (Cs i) x2 ao g am I R (by omega) hi (z_fcl hf1 hi (by omega)) h5 h6 ([zZo K az Z W, zCo K ak F O, zCo K tk Ft Ot, zCa K tc Tc, zSX K n sc Cs i] : zB).flatten (q_hitsOf_h hS hi).1 B hX hbl hbA (r_hi hL h4L (k := 1) (by decide)) hv1 (r_hi hL h4L (k := 2) (by decide)) hv2 (by omega) (by omega) ?_
      refine z_fro (bs := zFi K ax sa ao az ak tk tc am n f so sc X Z W D Cs i (Cs i) F O Ft Ot Tc ((fX5_hitsOf I R (nI i) x2).2) R ((fL_hitsOf_h D i (Cs i) x2 g).2)) (bc := [zXo ax (az 0) sa (ak 0) (tk 0) (tc 0) X, zSa K sa f, zSO n so sc D, zCa K (sc i) (Cs i), zOu K ao ((fL_hitsOf_h D i (Cs i) x2 g).2), zMo K am ((fX5_hitsOf I R (nI i) x2).2) R]) (br := [zZo K az Z W, zCo K ak F O, zCo K tk Ft Ot, zCa K tc Tc, zSX K n sc Cs i]) [0, 2, 3, 4, 9, 8] [1, 5, 6, 7, 10] (zsp rfl rfl rfl) ?_
      refine z_perm (bs' := zFu K ax sa ao az ak tk tc am n f so sc X Z W D Cs F O Ft Ot Tc ((fX5_hitsOf I R (nI i) x2).2) R ((fL_hitsOf_h D i (Cs i) x2 g).2)) (zFi_of hi).symm ?_
      exact next n f so sc X Z W D Cs F O Ft Ot Tc ((fX5_hitsOf I R (nI i) x2).2) R ((fL_hitsOf_h D i (Cs i) x2 g).2) (q_hitsOf_h hS hi).2 hf1 hf2
    · have hfn := miss hm
      refine z_tsI B 1295 dL_law_39 (by decide) (by decide) rfl rfl ?_
      refine z_to (bc := [zXo ax (az 0) sa (ak 0) (tk 0) (tc 0) X, zSa K sa f, zOu K ao g, zMo K am I R]) (br := [zZo K az Z W, zSO n so sc D, zSC K n sc Cs, zCo K ak F O, zCo K tk Ft Ot, zCa K tc Tc]) [0, 2, 9, 8] [1, 3, 4, 5, 6, 7] (zsp rfl rfl rfl) ?_
      refine aL_hitsOf_m l hl K ax (az 0) sa (ak 0) (tk 0) (tc 0) X f x1 x2 ao g am I R hfn h5 h6 ([zZo K az Z W, zSO n so sc D, zSC K n sc Cs, zCo K ak F O, zCo K tk Ft Ot, zCa K tc Tc] : zB).flatten (q_hitsOf_m hS hm).1 B hX hbl hbA (r_hi hL h4L (k := 1) (by decide)) hv1 (r_hi hL h4L (k := 2) (by decide)) hv2 (by omega) (by omega) ?_
      refine z_fro (bs := zFu K ax sa ao az ak tk tc am n f so sc X Z W D Cs F O Ft Ot Tc ((fX5_hitsOf I R x1 x2).2) R g) (bc := [zXo ax (az 0) sa (ak 0) (tk 0) (tc 0) X, zSa K sa f, zOu K ao g, zMo K am ((fX5_hitsOf I R x1 x2).2) R]) (br := [zZo K az Z W, zSO n so sc D, zSC K n sc Cs, zCo K ak F O, zCo K tk Ft Ot, zCa K tc Tc]) [0, 2, 9, 8] [1, 3, 4, 5, 6, 7] (zsp rfl rfl rfl) ?_
      exact next n f so sc X Z W D Cs F O Ft Ot Tc ((fX5_hitsOf I R x1 x2).2) R g (q_hitsOf_m hS hm).2 hf1 hf2
set_option maxHeartbeats 8000000 in
set_option maxRecDepth 100000 in
theorem law_op23 (l : Launch) (hl : l.stackTraces = false) {K : zK} {p : Program} {e : Env} {s : State} {m : MethodId} {below : List Frame} {meth : Method} {c : Code} {A : Nat → Prop} {Q : State → Prop} {ret9 : Option FieldType} {nm9 : String} {tb9 : List ExceptionTableEntry} {args : Array Value} {b L ii k9 n9 : Nat} {xs : Nat → Int32} (B : zF K p l s m args meth c A cL_law 7 RL nm9 wsL_law ret9 tb9) (hX : va_X b L xs s s.heap) (hbl : b < s.heap.size) (hbA : ¬ A b) (hL : L ≤ 2048) (h4L : ii + 4 ≤ L) (hk9 : k9 + 16 ≤ 601024) (hn9 : n9 + 512 ≤ 7293034) {ax sa ao : Nat} {az ak tk tc am : Nat → Nat}
    (next : ∀ (n : Nat) (f : Nat → Option Nat) (so : Nat → Nat) (sc : Nat → Nat → Nat) (X : Nat → Int32) (Z : Nat → Nat → Int32) (W : Nat → Int32) (D : Nat → Nat → Int32) (Cs : Nat → Nat → Nat → Int32) (F : Nat → Int32) (O : Nat → Int32) (Ft : Nat → Int32) (Ot : Nat → Int32) (Tc : Nat → Nat → Int32) (I : Nat → Int32) (R : Nat → Nat → Int32) (g : Nat → Int64), rR n X Z W D Cs O I R → (∀ a, a < n → f a = some (so a)) → (∀ a, n ≤ a → a < 4 → f a = none) → zW K p l e zR s m args below meth c A Q (k9 + 16) (n9 + 512) (zFu K ax sa ao az ak tk tc am n f so sc X Z W D Cs F O Ft Ot Tc I R g) [(0, .ref b), (1, .ref ax), (2, .ref (am 0)), (3, .ref ao), (4, .int (nI ii))] [] 1428) : ∀ (n : Nat) (f : Nat → Option Nat) (so : Nat → Nat) (sc : Nat → Nat → Nat) (X : Nat → Int32) (Z : Nat → Nat → Int32) (W : Nat → Int32) (D : Nat → Nat → Int32) (Cs : Nat → Nat → Nat → Int32) (F : Nat → Int32) (O : Nat → Int32) (Ft : Nat → Int32) (Ot : Nat → Int32) (Tc : Nat → Nat → Int32) (I : Nat → Int32) (R : Nat → Nat → Int32) (g : Nat → Int64), rR n X Z W D Cs O I R → (∀ a, a < n → f a = some (so a)) → (∀ a, n ≤ a → a < 4 → f a = none) → zW K p l e zR s m args below meth c A Q k9 n9 (zFu K ax sa ao az ak tk tc am n f so sc X Z W D Cs F O Ft Ot Tc I R g) [(0, .ref b), (1, .ref ax), (2, .ref (am 0)), (3, .ref ao), (4, .int (nI ii))] [.int (nI 23)] 39 := by
  intro n f so sc X Z W D Cs F O Ft Ot Tc I R g hS hf1 hf2
  have hn4 := hS.1.2.1
  have h5 : ¬ (I 5) < 0 := by rw [hS.1.1]; exact nI_pos (by omega)
  have h6 : (I 5).toNatClampNeg ≤ 4 := by rw [hS.1.1, nI_clamp (by omega)]; exact hn4
  have hZ := hS.2.1.zw
  have hC := hS.2.2.2.1.1
  have h4 := hS.2.1.2.2.2
  have hW4 : (W 4) = 0 ∨ (W 4) = 1 := by rw [hS.2.1.2.2.1]; exact h4
  have h16 := hS.2.2.1.2.2.2.2.2.2.2.2.2.2.2
  have hO5 : (O 5) = 0 ∨ (O 5) = 1 := by rw [hS.2.2.1.2.2.2.2.2.2.2.2.2.2.1]; exact h16
  have hX2 := hS.2.2.1.1
  have hon := hS.1.2.2.2
  have hD3 : ∀ i, i < n → (D i 3) = 0 ∨ (D i 3) = 1 := fun i hi => by rw [(hS.1.2.2.1 i hi).2.2.1]; exact hon i
  have i01 : (0 : Int32) = 0 ∨ (0 : Int32) = 1 := Or.inl rfl
  have i11 : (1 : Int32) = 0 ∨ (1 : Int32) = 1 := Or.inr rfl
  obtain ⟨x1, hv1⟩ : ∃ x1, xs (nI ii + 1).toNatClampNeg = x1 := ⟨_, rfl⟩
  obtain ⟨x2, hv2⟩ : ∃ x2, xs (nI ii + 2).toNatClampNeg = x2 := ⟨_, rfl⟩
  obtain ⟨x3, hv3⟩ : ∃ x3, xs (nI ii + 3).toNatClampNeg = x3 := ⟨_, rfl⟩
  have site : (∃ i, i < n ∧ x1 = nI i) ∨ (∀ i, i < n → x1 ≠ nI i) := by
    by_cases h : ∃ i, i < n ∧ x1 = nI i
    · exact Or.inl h
    · exact Or.inr fun i hi q => h ⟨i, hi, q⟩
  have near : fX4_near n D x1 = none ∨ ∃ i, i < n ∧ fX4_near n D x1 = some i := z_nearLt n D x1
  have miss : (∀ i, i < n → x1 ≠ nI i) → x1 < 4 → ¬ x1 < 0 → f x1.toNatClampNeg = none := by
    intro hm q1 q2
    obtain ⟨j, hj, rfl⟩ := nI_of q2
    have hj4 : j < 4 := (nI_ltI (b := 4) hj (by decide)).mp q1
    rw [nI_clamp hj]
    exact hf2 j (Nat.le_of_not_lt fun q => hm j q rfl) hj4
  · refine z_tsI B 1363 dL_law_39 (by decide) (by decide) rfl rfl ?_
    refine z_to (bc := [zXo ax (az 0) sa (ak 0) (tk 0) (tc 0) X, zMo K am I R]) (br := [zZo K az Z W, zSa K sa f, zSO n so sc D, zSC K n sc Cs, zCo K ak F O, zCo K tk Ft Ot, zCa K tc Tc, zOu K ao g]) [0, 8] [1, 2, 3, 4, 5, 6, 7, 9] (zsp rfl rfl rfl) ?_
    refine aL_queries l hl ao K ax (az 0) sa (ak 0) (tk 0) (tc 0) X am I R ([zZo K az Z W, zSa K sa f, zSO n so sc D, zSC K n sc Cs, zCo K ak F O, zCo K tk Ft Ot, zCa K tc Tc, zOu K ao g] : zB).flatten hS.2.2.1.2.2.2.1 B hX hbl hbA  (by omega) (by omega) ?_
    refine z_fro (bs := zFu K ax sa ao az ak tk tc am n f so sc X Z W D Cs F O Ft Ot Tc ((fX5_queries I R).2) R g) (bc := [zXo ax (az 0) sa (ak 0) (tk 0) (tc 0) X, zMo K am ((fX5_queries I R).2) R]) (br := [zZo K az Z W, zSa K sa f, zSO n so sc D, zSC K n sc Cs, zCo K ak F O, zCo K tk Ft Ot, zCa K tc Tc, zOu K ao g]) [0, 8] [1, 2, 3, 4, 5, 6, 7, 9] (zsp rfl rfl rfl) ?_
    exact next n f so sc X Z W D Cs F O Ft Ot Tc ((fX5_queries I R).2) R g (hS.t 0) hf1 hf2
set_option maxHeartbeats 8000000 in
set_option maxRecDepth 100000 in
theorem law_op24 (l : Launch) (hl : l.stackTraces = false) {K : zK} {p : Program} {e : Env} {s : State} {m : MethodId} {below : List Frame} {meth : Method} {c : Code} {A : Nat → Prop} {Q : State → Prop} {ret9 : Option FieldType} {nm9 : String} {tb9 : List ExceptionTableEntry} {args : Array Value} {b L ii k9 n9 : Nat} {xs : Nat → Int32} (B : zF K p l s m args meth c A cL_law 7 RL nm9 wsL_law ret9 tb9) (hX : va_X b L xs s s.heap) (hbl : b < s.heap.size) (hbA : ¬ A b) (hL : L ≤ 2048) (h4L : ii + 4 ≤ L) (hk9 : k9 + 16 ≤ 601024) (hn9 : n9 + 512 ≤ 7293034) {ax sa ao : Nat} {az ak tk tc am : Nat → Nat}
    (next : ∀ (n : Nat) (f : Nat → Option Nat) (so : Nat → Nat) (sc : Nat → Nat → Nat) (X : Nat → Int32) (Z : Nat → Nat → Int32) (W : Nat → Int32) (D : Nat → Nat → Int32) (Cs : Nat → Nat → Nat → Int32) (F : Nat → Int32) (O : Nat → Int32) (Ft : Nat → Int32) (Ot : Nat → Int32) (Tc : Nat → Nat → Int32) (I : Nat → Int32) (R : Nat → Nat → Int32) (g : Nat → Int64), rR n X Z W D Cs O I R → (∀ a, a < n → f a = some (so a)) → (∀ a, n ≤ a → a < 4 → f a = none) → zW K p l e zR s m args below meth c A Q (k9 + 16) (n9 + 512) (zFu K ax sa ao az ak tk tc am n f so sc X Z W D Cs F O Ft Ot Tc I R g) [(0, .ref b), (1, .ref ax), (2, .ref (am 0)), (3, .ref ao), (4, .int (nI ii))] [] 1428) : ∀ (n : Nat) (f : Nat → Option Nat) (so : Nat → Nat) (sc : Nat → Nat → Nat) (X : Nat → Int32) (Z : Nat → Nat → Int32) (W : Nat → Int32) (D : Nat → Nat → Int32) (Cs : Nat → Nat → Nat → Int32) (F : Nat → Int32) (O : Nat → Int32) (Ft : Nat → Int32) (Ot : Nat → Int32) (Tc : Nat → Nat → Int32) (I : Nat → Int32) (R : Nat → Nat → Int32) (g : Nat → Int64), rR n X Z W D Cs O I R → (∀ a, a < n → f a = some (so a)) → (∀ a, n ≤ a → a < 4 → f a = none) → zW K p l e zR s m args below meth c A Q k9 n9 (zFu K ax sa ao az ak tk tc am n f so sc X Z W D Cs F O Ft Ot Tc I R g) [(0, .ref b), (1, .ref ax), (2, .ref (am 0)), (3, .ref ao), (4, .int (nI ii))] [.int (nI 24)] 39 := by
  intro n f so sc X Z W D Cs F O Ft Ot Tc I R g hS hf1 hf2
  have hn4 := hS.1.2.1
  have h5 : ¬ (I 5) < 0 := by rw [hS.1.1]; exact nI_pos (by omega)
  have h6 : (I 5).toNatClampNeg ≤ 4 := by rw [hS.1.1, nI_clamp (by omega)]; exact hn4
  have hZ := hS.2.1.zw
  have hC := hS.2.2.2.1.1
  have h4 := hS.2.1.2.2.2
  have hW4 : (W 4) = 0 ∨ (W 4) = 1 := by rw [hS.2.1.2.2.1]; exact h4
  have h16 := hS.2.2.1.2.2.2.2.2.2.2.2.2.2.2
  have hO5 : (O 5) = 0 ∨ (O 5) = 1 := by rw [hS.2.2.1.2.2.2.2.2.2.2.2.2.2.1]; exact h16
  have hX2 := hS.2.2.1.1
  have hon := hS.1.2.2.2
  have hD3 : ∀ i, i < n → (D i 3) = 0 ∨ (D i 3) = 1 := fun i hi => by rw [(hS.1.2.2.1 i hi).2.2.1]; exact hon i
  have i01 : (0 : Int32) = 0 ∨ (0 : Int32) = 1 := Or.inl rfl
  have i11 : (1 : Int32) = 0 ∨ (1 : Int32) = 1 := Or.inr rfl
  obtain ⟨x1, hv1⟩ : ∃ x1, xs (nI ii + 1).toNatClampNeg = x1 := ⟨_, rfl⟩
  obtain ⟨x2, hv2⟩ : ∃ x2, xs (nI ii + 2).toNatClampNeg = x2 := ⟨_, rfl⟩
  obtain ⟨x3, hv3⟩ : ∃ x3, xs (nI ii + 3).toNatClampNeg = x3 := ⟨_, rfl⟩
  have site : (∃ i, i < n ∧ x1 = nI i) ∨ (∀ i, i < n → x1 ≠ nI i) := by
    by_cases h : ∃ i, i < n ∧ x1 = nI i
    · exact Or.inl h
    · exact Or.inr fun i hi q => h ⟨i, hi, q⟩
  have near : fX4_near n D x1 = none ∨ ∃ i, i < n ∧ fX4_near n D x1 = some i := z_nearLt n D x1
  have miss : (∀ i, i < n → x1 ≠ nI i) → x1 < 4 → ¬ x1 < 0 → f x1.toNatClampNeg = none := by
    intro hm q1 q2
    obtain ⟨j, hj, rfl⟩ := nI_of q2
    have hj4 : j < 4 := (nI_ltI (b := 4) hj (by decide)).mp q1
    rw [nI_clamp hj]
    exact hf2 j (Nat.le_of_not_lt fun q => hm j q rfl) hj4
  · refine z_tsI B 1376 dL_law_39 (by decide) (by decide) rfl rfl ?_
    refine z_to (bc := [zXo ax (az 0) sa (ak 0) (tk 0) (tc 0) X, zMo K am I R]) (br := [zZo K az Z W, zSa K sa f, zSO n so sc D, zSC K n sc Cs, zCo K ak F O, zCo K tk Ft Ot, zCa K tc Tc, zOu K ao g]) [0, 8] [1, 2, 3, 4, 5, 6, 7, 9] (zsp rfl rfl rfl) ?_
    refine aL_fetches l hl ao K ax (az 0) sa (ak 0) (tk 0) (tc 0) X am I R ([zZo K az Z W, zSa K sa f, zSO n so sc D, zSC K n sc Cs, zCo K ak F O, zCo K tk Ft Ot, zCa K tc Tc, zOu K ao g] : zB).flatten hS.2.2.1.2.2.2.2.1 B hX hbl hbA  (by omega) (by omega) ?_
    refine z_fro (bs := zFu K ax sa ao az ak tk tc am n f so sc X Z W D Cs F O Ft Ot Tc ((fX5_fetches I R).2) R g) (bc := [zXo ax (az 0) sa (ak 0) (tk 0) (tc 0) X, zMo K am ((fX5_fetches I R).2) R]) (br := [zZo K az Z W, zSa K sa f, zSO n so sc D, zSC K n sc Cs, zCo K ak F O, zCo K tk Ft Ot, zCa K tc Tc, zOu K ao g]) [0, 8] [1, 2, 3, 4, 5, 6, 7, 9] (zsp rfl rfl rfl) ?_
    exact next n f so sc X Z W D Cs F O Ft Ot Tc ((fX5_fetches I R).2) R g (hS.t 0) hf1 hf2
set_option maxHeartbeats 8000000 in
set_option maxRecDepth 100000 in
theorem law_op25 (l : Launch) (hl : l.stackTraces = false) {K : zK} {p : Program} {e : Env} {s : State} {m : MethodId} {below : List Frame} {meth : Method} {c : Code} {A : Nat → Prop} {Q : State → Prop} {ret9 : Option FieldType} {nm9 : String} {tb9 : List ExceptionTableEntry} {args : Array Value} {b L ii k9 n9 : Nat} {xs : Nat → Int32} (B : zF K p l s m args meth c A cL_law 7 RL nm9 wsL_law ret9 tb9) (hX : va_X b L xs s s.heap) (hbl : b < s.heap.size) (hbA : ¬ A b) (hL : L ≤ 2048) (h4L : ii + 4 ≤ L) (hk9 : k9 + 16 ≤ 601024) (hn9 : n9 + 512 ≤ 7293034) {ax sa ao : Nat} {az ak tk tc am : Nat → Nat}
    (next : ∀ (n : Nat) (f : Nat → Option Nat) (so : Nat → Nat) (sc : Nat → Nat → Nat) (X : Nat → Int32) (Z : Nat → Nat → Int32) (W : Nat → Int32) (D : Nat → Nat → Int32) (Cs : Nat → Nat → Nat → Int32) (F : Nat → Int32) (O : Nat → Int32) (Ft : Nat → Int32) (Ot : Nat → Int32) (Tc : Nat → Nat → Int32) (I : Nat → Int32) (R : Nat → Nat → Int32) (g : Nat → Int64), rR n X Z W D Cs O I R → (∀ a, a < n → f a = some (so a)) → (∀ a, n ≤ a → a < 4 → f a = none) → zW K p l e zR s m args below meth c A Q (k9 + 16) (n9 + 512) (zFu K ax sa ao az ak tk tc am n f so sc X Z W D Cs F O Ft Ot Tc I R g) [(0, .ref b), (1, .ref ax), (2, .ref (am 0)), (3, .ref ao), (4, .int (nI ii))] [] 1428) : ∀ (n : Nat) (f : Nat → Option Nat) (so : Nat → Nat) (sc : Nat → Nat → Nat) (X : Nat → Int32) (Z : Nat → Nat → Int32) (W : Nat → Int32) (D : Nat → Nat → Int32) (Cs : Nat → Nat → Nat → Int32) (F : Nat → Int32) (O : Nat → Int32) (Ft : Nat → Int32) (Ot : Nat → Int32) (Tc : Nat → Nat → Int32) (I : Nat → Int32) (R : Nat → Nat → Int32) (g : Nat → Int64), rR n X Z W D Cs O I R → (∀ a, a < n → f a = some (so a)) → (∀ a, n ≤ a → a < 4 → f a = none) → zW K p l e zR s m args below meth c A Q k9 n9 (zFu K ax sa ao az ak tk tc am n f so sc X Z W D Cs F O Ft Ot Tc I R g) [(0, .ref b), (1, .ref ax), (2, .ref (am 0)), (3, .ref ao), (4, .int (nI ii))] [.int (nI 25)] 39 := by
  intro n f so sc X Z W D Cs F O Ft Ot Tc I R g hS hf1 hf2
  have hn4 := hS.1.2.1
  have h5 : ¬ (I 5) < 0 := by rw [hS.1.1]; exact nI_pos (by omega)
  have h6 : (I 5).toNatClampNeg ≤ 4 := by rw [hS.1.1, nI_clamp (by omega)]; exact hn4
  have hZ := hS.2.1.zw
  have hC := hS.2.2.2.1.1
  have h4 := hS.2.1.2.2.2
  have hW4 : (W 4) = 0 ∨ (W 4) = 1 := by rw [hS.2.1.2.2.1]; exact h4
  have h16 := hS.2.2.1.2.2.2.2.2.2.2.2.2.2.2
  have hO5 : (O 5) = 0 ∨ (O 5) = 1 := by rw [hS.2.2.1.2.2.2.2.2.2.2.2.2.2.1]; exact h16
  have hX2 := hS.2.2.1.1
  have hon := hS.1.2.2.2
  have hD3 : ∀ i, i < n → (D i 3) = 0 ∨ (D i 3) = 1 := fun i hi => by rw [(hS.1.2.2.1 i hi).2.2.1]; exact hon i
  have i01 : (0 : Int32) = 0 ∨ (0 : Int32) = 1 := Or.inl rfl
  have i11 : (1 : Int32) = 0 ∨ (1 : Int32) = 1 := Or.inr rfl
  obtain ⟨x1, hv1⟩ : ∃ x1, xs (nI ii + 1).toNatClampNeg = x1 := ⟨_, rfl⟩
  obtain ⟨x2, hv2⟩ : ∃ x2, xs (nI ii + 2).toNatClampNeg = x2 := ⟨_, rfl⟩
  obtain ⟨x3, hv3⟩ : ∃ x3, xs (nI ii + 3).toNatClampNeg = x3 := ⟨_, rfl⟩
  have site : (∃ i, i < n ∧ x1 = nI i) ∨ (∀ i, i < n → x1 ≠ nI i) := by
    by_cases h : ∃ i, i < n ∧ x1 = nI i
    · exact Or.inl h
    · exact Or.inr fun i hi q => h ⟨i, hi, q⟩
  have near : fX4_near n D x1 = none ∨ ∃ i, i < n ∧ fX4_near n D x1 = some i := z_nearLt n D x1
  have miss : (∀ i, i < n → x1 ≠ nI i) → x1 < 4 → ¬ x1 < 0 → f x1.toNatClampNeg = none := by
    intro hm q1 q2
    obtain ⟨j, hj, rfl⟩ := nI_of q2
    have hj4 : j < 4 := (nI_ltI (b := 4) hj (by decide)).mp q1
    rw [nI_clamp hj]
    exact hf2 j (Nat.le_of_not_lt fun q => hm j q rfl) hj4
  · refine z_tsI B 1389 dL_law_39 (by decide) (by decide) rfl rfl ?_
    refine z_to (bc := [zXo ax (az 0) sa (ak 0) (tk 0) (tc 0) X, zMo K am I R]) (br := [zZo K az Z W, zSa K sa f, zSO n so sc D, zSC K n sc Cs, zCo K ak F O, zCo K tk Ft Ot, zCa K tc Tc, zOu K ao g]) [0, 8] [1, 2, 3, 4, 5, 6, 7, 9] (zsp rfl rfl rfl) ?_
    refine aL_prefetches l hl ao K ax (az 0) sa (ak 0) (tk 0) (tc 0) X am I R ([zZo K az Z W, zSa K sa f, zSO n so sc D, zSC K n sc Cs, zCo K ak F O, zCo K tk Ft Ot, zCa K tc Tc, zOu K ao g] : zB).flatten hS.2.2.1.2.2.2.2.2.1 B hX hbl hbA  (by omega) (by omega) ?_
    refine z_fro (bs := zFu K ax sa ao az ak tk tc am n f so sc X Z W D Cs F O Ft Ot Tc ((fX5_prefetches I R).2) R g) (bc := [zXo ax (az 0) sa (ak 0) (tk 0) (tc 0) X, zMo K am ((fX5_prefetches I R).2) R]) (br := [zZo K az Z W, zSa K sa f, zSO n so sc D, zSC K n sc Cs, zCo K ak F O, zCo K tk Ft Ot, zCa K tc Tc, zOu K ao g]) [0, 8] [1, 2, 3, 4, 5, 6, 7, 9] (zsp rfl rfl rfl) ?_
    exact next n f so sc X Z W D Cs F O Ft Ot Tc ((fX5_prefetches I R).2) R g (hS.t 0) hf1 hf2
set_option maxHeartbeats 8000000 in
set_option maxRecDepth 100000 in
theorem law_op26 (l : Launch) (hl : l.stackTraces = false) {K : zK} {p : Program} {e : Env} {s : State} {m : MethodId} {below : List Frame} {meth : Method} {c : Code} {A : Nat → Prop} {Q : State → Prop} {ret9 : Option FieldType} {nm9 : String} {tb9 : List ExceptionTableEntry} {args : Array Value} {b L ii k9 n9 : Nat} {xs : Nat → Int32} (B : zF K p l s m args meth c A cL_law 7 RL nm9 wsL_law ret9 tb9) (hX : va_X b L xs s s.heap) (hbl : b < s.heap.size) (hbA : ¬ A b) (hL : L ≤ 2048) (h4L : ii + 4 ≤ L) (hk9 : k9 + 16 ≤ 601024) (hn9 : n9 + 512 ≤ 7293034) {ax sa ao : Nat} {az ak tk tc am : Nat → Nat}
    (next : ∀ (n : Nat) (f : Nat → Option Nat) (so : Nat → Nat) (sc : Nat → Nat → Nat) (X : Nat → Int32) (Z : Nat → Nat → Int32) (W : Nat → Int32) (D : Nat → Nat → Int32) (Cs : Nat → Nat → Nat → Int32) (F : Nat → Int32) (O : Nat → Int32) (Ft : Nat → Int32) (Ot : Nat → Int32) (Tc : Nat → Nat → Int32) (I : Nat → Int32) (R : Nat → Nat → Int32) (g : Nat → Int64), rR n X Z W D Cs O I R → (∀ a, a < n → f a = some (so a)) → (∀ a, n ≤ a → a < 4 → f a = none) → zW K p l e zR s m args below meth c A Q (k9 + 16) (n9 + 512) (zFu K ax sa ao az ak tk tc am n f so sc X Z W D Cs F O Ft Ot Tc I R g) [(0, .ref b), (1, .ref ax), (2, .ref (am 0)), (3, .ref ao), (4, .int (nI ii))] [] 1428) : ∀ (n : Nat) (f : Nat → Option Nat) (so : Nat → Nat) (sc : Nat → Nat → Nat) (X : Nat → Int32) (Z : Nat → Nat → Int32) (W : Nat → Int32) (D : Nat → Nat → Int32) (Cs : Nat → Nat → Nat → Int32) (F : Nat → Int32) (O : Nat → Int32) (Ft : Nat → Int32) (Ot : Nat → Int32) (Tc : Nat → Nat → Int32) (I : Nat → Int32) (R : Nat → Nat → Int32) (g : Nat → Int64), rR n X Z W D Cs O I R → (∀ a, a < n → f a = some (so a)) → (∀ a, n ≤ a → a < 4 → f a = none) → zW K p l e zR s m args below meth c A Q k9 n9 (zFu K ax sa ao az ak tk tc am n f so sc X Z W D Cs F O Ft Ot Tc I R g) [(0, .ref b), (1, .ref ax), (2, .ref (am 0)), (3, .ref ao), (4, .int (nI ii))] [.int (nI 26)] 39 := by
  intro n f so sc X Z W D Cs F O Ft Ot Tc I R g hS hf1 hf2
  have hn4 := hS.1.2.1
  have h5 : ¬ (I 5) < 0 := by rw [hS.1.1]; exact nI_pos (by omega)
  have h6 : (I 5).toNatClampNeg ≤ 4 := by rw [hS.1.1, nI_clamp (by omega)]; exact hn4
  have hZ := hS.2.1.zw
  have hC := hS.2.2.2.1.1
  have h4 := hS.2.1.2.2.2
  have hW4 : (W 4) = 0 ∨ (W 4) = 1 := by rw [hS.2.1.2.2.1]; exact h4
  have h16 := hS.2.2.1.2.2.2.2.2.2.2.2.2.2.2
  have hO5 : (O 5) = 0 ∨ (O 5) = 1 := by rw [hS.2.2.1.2.2.2.2.2.2.2.2.2.2.1]; exact h16
  have hX2 := hS.2.2.1.1
  have hon := hS.1.2.2.2
  have hD3 : ∀ i, i < n → (D i 3) = 0 ∨ (D i 3) = 1 := fun i hi => by rw [(hS.1.2.2.1 i hi).2.2.1]; exact hon i
  have i01 : (0 : Int32) = 0 ∨ (0 : Int32) = 1 := Or.inl rfl
  have i11 : (1 : Int32) = 0 ∨ (1 : Int32) = 1 := Or.inr rfl
  obtain ⟨x1, hv1⟩ : ∃ x1, xs (nI ii + 1).toNatClampNeg = x1 := ⟨_, rfl⟩
  obtain ⟨x2, hv2⟩ : ∃ x2, xs (nI ii + 2).toNatClampNeg = x2 := ⟨_, rfl⟩
  obtain ⟨x3, hv3⟩ : ∃ x3, xs (nI ii + 3).toNatClampNeg = x3 := ⟨_, rfl⟩
  have site : (∃ i, i < n ∧ x1 = nI i) ∨ (∀ i, i < n → x1 ≠ nI i) := by
    by_cases h : ∃ i, i < n ∧ x1 = nI i
    · exact Or.inl h
    · exact Or.inr fun i hi q => h ⟨i, hi, q⟩
  have near : fX4_near n D x1 = none ∨ ∃ i, i < n ∧ fX4_near n D x1 = some i := z_nearLt n D x1
  have miss : (∀ i, i < n → x1 ≠ nI i) → x1 < 4 → ¬ x1 < 0 → f x1.toNatClampNeg = none := by
    intro hm q1 q2
    obtain ⟨j, hj, rfl⟩ := nI_of q2
    have hj4 : j < 4 := (nI_ltI (b := 4) hj (by decide)).mp q1
    rw [nI_clamp hj]
    exact hf2 j (Nat.le_of_not_lt fun q => hm j q rfl) hj4
  · refine z_tsI B 1402 dL_law_39 (by decide) (by decide) rfl rfl ?_
    refine z_to (bc := [zXo ax (az 0) sa (ak 0) (tk 0) (tc 0) X, zMo K am I R]) (br := [zZo K az Z W, zSa K sa f, zSO n so sc D, zSC K n sc Cs, zCo K ak F O, zCo K tk Ft Ot, zCa K tc Tc, zOu K ao g]) [0, 8] [1, 2, 3, 4, 5, 6, 7, 9] (zsp rfl rfl rfl) ?_
    refine aL_staleAnswers l hl ao K ax (az 0) sa (ak 0) (tk 0) (tc 0) X am I R ([zZo K az Z W, zSa K sa f, zSO n so sc D, zSC K n sc Cs, zCo K ak F O, zCo K tk Ft Ot, zCa K tc Tc, zOu K ao g] : zB).flatten hS.2.2.1.2.2.2.2.2.2.1 B hX hbl hbA  (by omega) (by omega) ?_
    refine z_fro (bs := zFu K ax sa ao az ak tk tc am n f so sc X Z W D Cs F O Ft Ot Tc ((fX5_staleAnswers I R).2) R g) (bc := [zXo ax (az 0) sa (ak 0) (tk 0) (tc 0) X, zMo K am ((fX5_staleAnswers I R).2) R]) (br := [zZo K az Z W, zSa K sa f, zSO n so sc D, zSC K n sc Cs, zCo K ak F O, zCo K tk Ft Ot, zCa K tc Tc, zOu K ao g]) [0, 8] [1, 2, 3, 4, 5, 6, 7, 9] (zsp rfl rfl rfl) ?_
    exact next n f so sc X Z W D Cs F O Ft Ot Tc ((fX5_staleAnswers I R).2) R g (hS.t 0) hf1 hf2
set_option maxHeartbeats 8000000 in
set_option maxRecDepth 100000 in
theorem law_op27 (l : Launch) (hl : l.stackTraces = false) {K : zK} {p : Program} {e : Env} {s : State} {m : MethodId} {below : List Frame} {meth : Method} {c : Code} {A : Nat → Prop} {Q : State → Prop} {ret9 : Option FieldType} {nm9 : String} {tb9 : List ExceptionTableEntry} {args : Array Value} {b L ii k9 n9 : Nat} {xs : Nat → Int32} (B : zF K p l s m args meth c A cL_law 7 RL nm9 wsL_law ret9 tb9) (hX : va_X b L xs s s.heap) (hbl : b < s.heap.size) (hbA : ¬ A b) (hL : L ≤ 2048) (h4L : ii + 4 ≤ L) (hk9 : k9 + 16 ≤ 601024) (hn9 : n9 + 512 ≤ 7293034) {ax sa ao : Nat} {az ak tk tc am : Nat → Nat}
    (next : ∀ (n : Nat) (f : Nat → Option Nat) (so : Nat → Nat) (sc : Nat → Nat → Nat) (X : Nat → Int32) (Z : Nat → Nat → Int32) (W : Nat → Int32) (D : Nat → Nat → Int32) (Cs : Nat → Nat → Nat → Int32) (F : Nat → Int32) (O : Nat → Int32) (Ft : Nat → Int32) (Ot : Nat → Int32) (Tc : Nat → Nat → Int32) (I : Nat → Int32) (R : Nat → Nat → Int32) (g : Nat → Int64), rR n X Z W D Cs O I R → (∀ a, a < n → f a = some (so a)) → (∀ a, n ≤ a → a < 4 → f a = none) → zW K p l e zR s m args below meth c A Q (k9 + 16) (n9 + 512) (zFu K ax sa ao az ak tk tc am n f so sc X Z W D Cs F O Ft Ot Tc I R g) [(0, .ref b), (1, .ref ax), (2, .ref (am 0)), (3, .ref ao), (4, .int (nI ii))] [] 1428) : ∀ (n : Nat) (f : Nat → Option Nat) (so : Nat → Nat) (sc : Nat → Nat → Nat) (X : Nat → Int32) (Z : Nat → Nat → Int32) (W : Nat → Int32) (D : Nat → Nat → Int32) (Cs : Nat → Nat → Nat → Int32) (F : Nat → Int32) (O : Nat → Int32) (Ft : Nat → Int32) (Ot : Nat → Int32) (Tc : Nat → Nat → Int32) (I : Nat → Int32) (R : Nat → Nat → Int32) (g : Nat → Int64), rR n X Z W D Cs O I R → (∀ a, a < n → f a = some (so a)) → (∀ a, n ≤ a → a < 4 → f a = none) → zW K p l e zR s m args below meth c A Q k9 n9 (zFu K ax sa ao az ak tk tc am n f so sc X Z W D Cs F O Ft Ot Tc I R g) [(0, .ref b), (1, .ref ax), (2, .ref (am 0)), (3, .ref ao), (4, .int (nI ii))] [.int (nI 27)] 39 := by
  intro n f so sc X Z W D Cs F O Ft Ot Tc I R g hS hf1 hf2
  have hn4 := hS.1.2.1
  have h5 : ¬ (I 5) < 0 := by rw [hS.1.1]; exact nI_pos (by omega)
  have h6 : (I 5).toNatClampNeg ≤ 4 := by rw [hS.1.1, nI_clamp (by omega)]; exact hn4
  have hZ := hS.2.1.zw
  have hC := hS.2.2.2.1.1
  have h4 := hS.2.1.2.2.2
  have hW4 : (W 4) = 0 ∨ (W 4) = 1 := by rw [hS.2.1.2.2.1]; exact h4
  have h16 := hS.2.2.1.2.2.2.2.2.2.2.2.2.2.2
  have hO5 : (O 5) = 0 ∨ (O 5) = 1 := by rw [hS.2.2.1.2.2.2.2.2.2.2.2.2.2.1]; exact h16
  have hX2 := hS.2.2.1.1
  have hon := hS.1.2.2.2
  have hD3 : ∀ i, i < n → (D i 3) = 0 ∨ (D i 3) = 1 := fun i hi => by rw [(hS.1.2.2.1 i hi).2.2.1]; exact hon i
  have i01 : (0 : Int32) = 0 ∨ (0 : Int32) = 1 := Or.inl rfl
  have i11 : (1 : Int32) = 0 ∨ (1 : Int32) = 1 := Or.inr rfl
  obtain ⟨x1, hv1⟩ : ∃ x1, xs (nI ii + 1).toNatClampNeg = x1 := ⟨_, rfl⟩
  obtain ⟨x2, hv2⟩ : ∃ x2, xs (nI ii + 2).toNatClampNeg = x2 := ⟨_, rfl⟩
  obtain ⟨x3, hv3⟩ : ∃ x3, xs (nI ii + 3).toNatClampNeg = x3 := ⟨_, rfl⟩
  have site : (∃ i, i < n ∧ x1 = nI i) ∨ (∀ i, i < n → x1 ≠ nI i) := by
    by_cases h : ∃ i, i < n ∧ x1 = nI i
    · exact Or.inl h
    · exact Or.inr fun i hi q => h ⟨i, hi, q⟩
  have near : fX4_near n D x1 = none ∨ ∃ i, i < n ∧ fX4_near n D x1 = some i := z_nearLt n D x1
  have miss : (∀ i, i < n → x1 ≠ nI i) → x1 < 4 → ¬ x1 < 0 → f x1.toNatClampNeg = none := by
    intro hm q1 q2
    obtain ⟨j, hj, rfl⟩ := nI_of q2
    have hj4 : j < 4 := (nI_ltI (b := 4) hj (by decide)).mp q1
    rw [nI_clamp hj]
    exact hf2 j (Nat.le_of_not_lt fun q => hm j q rfl) hj4
  · refine z_tsI B 1415 dL_law_39 (by decide) (by decide) rfl rfl ?_
    refine z_to (bc := [zXo ax (az 0) sa (ak 0) (tk 0) (tc 0) X, zMo K am I R]) (br := [zZo K az Z W, zSa K sa f, zSO n so sc D, zSC K n sc Cs, zCo K ak F O, zCo K tk Ft Ot, zCa K tc Tc, zOu K ao g]) [0, 8] [1, 2, 3, 4, 5, 6, 7, 9] (zsp rfl rfl rfl) ?_
    refine aL_failures l hl ao K ax (az 0) sa (ak 0) (tk 0) (tc 0) X am I R ([zZo K az Z W, zSa K sa f, zSO n so sc D, zSC K n sc Cs, zCo K ak F O, zCo K tk Ft Ot, zCa K tc Tc, zOu K ao g] : zB).flatten hS.2.2.1.2.2.2.2.2.2.2.1 B hX hbl hbA  (by omega) (by omega) ?_
    refine z_fro (bs := zFu K ax sa ao az ak tk tc am n f so sc X Z W D Cs F O Ft Ot Tc ((fX5_failures I R).2) R g) (bc := [zXo ax (az 0) sa (ak 0) (tk 0) (tc 0) X, zMo K am ((fX5_failures I R).2) R]) (br := [zZo K az Z W, zSa K sa f, zSO n so sc D, zSC K n sc Cs, zCo K ak F O, zCo K tk Ft Ot, zCa K tc Tc, zOu K ao g]) [0, 8] [1, 2, 3, 4, 5, 6, 7, 9] (zsp rfl rfl rfl) ?_
    exact next n f so sc X Z W D Cs F O Ft Ot Tc ((fX5_failures I R).2) R g (hS.t 0) hf1 hf2
set_option maxHeartbeats 8000000 in
set_option maxRecDepth 100000 in
theorem law_step (l : Launch) (hl : l.stackTraces = false) {K : zK} {p : Program} {e : Env} {s : State} {m : MethodId} {below : List Frame} {meth : Method} {c : Code} {A : Nat → Prop} {Q : State → Prop} {ret9 : Option FieldType} {nm9 : String} {tb9 : List ExceptionTableEntry} {args : Array Value} {b L ii k9 n9 : Nat} {xs : Nat → Int32} (B : zF K p l s m args meth c A cL_law 7 RL nm9 wsL_law ret9 tb9) (hX : va_X b L xs s s.heap) (hbl : b < s.heap.size) (hbA : ¬ A b) (hL : L ≤ 2048) (h4L : ii + 4 ≤ L) (hk9 : k9 + 16 ≤ 601024) (hn9 : n9 + 512 ≤ 7293034) {ax sa ao : Nat} {az ak tk tc am : Nat → Nat}
    (next : ∀ (n : Nat) (f : Nat → Option Nat) (so : Nat → Nat) (sc : Nat → Nat → Nat) (X : Nat → Int32) (Z : Nat → Nat → Int32) (W : Nat → Int32) (D : Nat → Nat → Int32) (Cs : Nat → Nat → Nat → Int32) (F : Nat → Int32) (O : Nat → Int32) (Ft : Nat → Int32) (Ot : Nat → Int32) (Tc : Nat → Nat → Int32) (I : Nat → Int32) (R : Nat → Nat → Int32) (g : Nat → Int64), rR n X Z W D Cs O I R → (∀ a, a < n → f a = some (so a)) → (∀ a, n ≤ a → a < 4 → f a = none) → zW K p l e zR s m args below meth c A Q (k9 + 16) (n9 + 512) (zFu K ax sa ao az ak tk tc am n f so sc X Z W D Cs F O Ft Ot Tc I R g) [(0, .ref b), (1, .ref ax), (2, .ref (am 0)), (3, .ref ao), (4, .int (nI ii))] [] 1428) : ∀ (n : Nat) (f : Nat → Option Nat) (so : Nat → Nat) (sc : Nat → Nat → Nat) (X : Nat → Int32) (Z : Nat → Nat → Int32) (W : Nat → Int32) (D : Nat → Nat → Int32) (Cs : Nat → Nat → Nat → Int32) (F : Nat → Int32) (O : Nat → Int32) (Ft : Nat → Int32) (Ot : Nat → Int32) (Tc : Nat → Nat → Int32) (I : Nat → Int32) (R : Nat → Nat → Int32) (g : Nat → Int64), rR n X Z W D Cs O I R → (∀ a, a < n → f a = some (so a)) → (∀ a, n ≤ a → a < 4 → f a = none) → zW K p l e zR s m args below meth c A Q k9 n9 (zFu K ax sa ao az ak tk tc am n f so sc X Z W D Cs F O Ft Ot Tc I R g) [(0, .ref b), (1, .ref ax), (2, .ref (am 0)), (3, .ref ao), (4, .int (nI ii))] [] 32 := by
  intro n f so sc X Z W D Cs F O Ft Ot Tc I R g hS hf1 hf2
  refine z_aload_n B dL_law_32 0 rfl ?_
  refine z_iload B dL_law_33 4 rfl ?_
  refine z_sld B hX hbl hbA (z_nIr (by omega) (by omega)) rfl dL_law_35 ?_
  refine z_bipush B (v := 31) dL_law_36 rfl ?_
  refine z_iand B dL_law_38 ?_
  obtain ⟨o, ho, eo⟩ := r_31 (xs (nI ii).toNatClampNeg)
  rw [eo]
  rcases (show o = 0 ∨ o = 1 ∨ o = 2 ∨ o = 3 ∨ o = 4 ∨ o = 5 ∨ o = 6 ∨ o = 7 ∨ o = 8 ∨ o = 9 ∨ o = 10 ∨ o = 11 ∨ o = 12 ∨ o = 13 ∨ o = 14 ∨ o = 15 ∨ o = 16 ∨ o = 17 ∨ o = 18 ∨ o = 19 ∨ o = 20 ∨ o = 21 ∨ o = 22 ∨ o = 23 ∨ o = 24 ∨ o = 25 ∨ o = 26 ∨ o = 27 ∨ 28 ≤ o by omega) with rfl | rfl | rfl | rfl | rfl | rfl | rfl | rfl | rfl | rfl | rfl | rfl | rfl | rfl | rfl | rfl | rfl | rfl | rfl | rfl | rfl | rfl | rfl | rfl | rfl | rfl | rfl | rfl | h28
  · exact law_op0 l hl B hX hbl hbA hL h4L hk9 hn9 next n f so sc X Z W D Cs F O Ft Ot Tc I R g hS hf1 hf2
  · exact law_op1 l hl B hX hbl hbA hL h4L hk9 hn9 next n f so sc X Z W D Cs F O Ft Ot Tc I R g hS hf1 hf2
  · exact law_op2 l hl B hX hbl hbA hL h4L hk9 hn9 next n f so sc X Z W D Cs F O Ft Ot Tc I R g hS hf1 hf2
  · exact law_op3 l hl B hX hbl hbA hL h4L hk9 hn9 next n f so sc X Z W D Cs F O Ft Ot Tc I R g hS hf1 hf2
  · exact law_op4 l hl B hX hbl hbA hL h4L hk9 hn9 next n f so sc X Z W D Cs F O Ft Ot Tc I R g hS hf1 hf2
  · exact law_op5 l hl B hX hbl hbA hL h4L hk9 hn9 next n f so sc X Z W D Cs F O Ft Ot Tc I R g hS hf1 hf2
  · exact law_op6 l hl B hX hbl hbA hL h4L hk9 hn9 next n f so sc X Z W D Cs F O Ft Ot Tc I R g hS hf1 hf2
  · exact law_op7 l hl B hX hbl hbA hL h4L hk9 hn9 next n f so sc X Z W D Cs F O Ft Ot Tc I R g hS hf1 hf2
  · exact law_op8 l hl B hX hbl hbA hL h4L hk9 hn9 next n f so sc X Z W D Cs F O Ft Ot Tc I R g hS hf1 hf2
  · exact law_op9 l hl B hX hbl hbA hL h4L hk9 hn9 next n f so sc X Z W D Cs F O Ft Ot Tc I R g hS hf1 hf2
  · exact law_op10 l hl B hX hbl hbA hL h4L hk9 hn9 next n f so sc X Z W D Cs F O Ft Ot Tc I R g hS hf1 hf2
  · exact law_op11 l hl B hX hbl hbA hL h4L hk9 hn9 next n f so sc X Z W D Cs F O Ft Ot Tc I R g hS hf1 hf2
  · exact law_op12 l hl B hX hbl hbA hL h4L hk9 hn9 next n f so sc X Z W D Cs F O Ft Ot Tc I R g hS hf1 hf2
  · exact law_op13 l hl B hX hbl hbA hL h4L hk9 hn9 next n f so sc X Z W D Cs F O Ft Ot Tc I R g hS hf1 hf2
  · exact law_op14 l hl B hX hbl hbA hL h4L hk9 hn9 next n f so sc X Z W D Cs F O Ft Ot Tc I R g hS hf1 hf2
  · exact law_op15 l hl B hX hbl hbA hL h4L hk9 hn9 next n f so sc X Z W D Cs F O Ft Ot Tc I R g hS hf1 hf2
  · exact law_op16 l hl B hX hbl hbA hL h4L hk9 hn9 next n f so sc X Z W D Cs F O Ft Ot Tc I R g hS hf1 hf2
  · exact law_op17 l hl B hX hbl hbA hL h4L hk9 hn9 next n f so sc X Z W D Cs F O Ft Ot Tc I R g hS hf1 hf2
  · exact law_op18 l hl B hX hbl hbA hL h4L hk9 hn9 next n f so sc X Z W D Cs F O Ft Ot Tc I R g hS hf1 hf2
  · exact law_op19 l hl B hX hbl hbA hL h4L hk9 hn9 next n f so sc X Z W D Cs F O Ft Ot Tc I R g hS hf1 hf2
  · exact law_op20 l hl B hX hbl hbA hL h4L hk9 hn9 next n f so sc X Z W D Cs F O Ft Ot Tc I R g hS hf1 hf2
  · exact law_op21 l hl B hX hbl hbA hL h4L hk9 hn9 next n f so sc X Z W D Cs F O Ft Ot Tc I R g hS hf1 hf2
  · exact law_op22 l hl B hX hbl hbA hL h4L hk9 hn9 next n f so sc X Z W D Cs F O Ft Ot Tc I R g hS hf1 hf2
  · exact law_op23 l hl B hX hbl hbA hL h4L hk9 hn9 next n f so sc X Z W D Cs F O Ft Ot Tc I R g hS hf1 hf2
  · exact law_op24 l hl B hX hbl hbA hL h4L hk9 hn9 next n f so sc X Z W D Cs F O Ft Ot Tc I R g hS hf1 hf2
  · exact law_op25 l hl B hX hbl hbA hL h4L hk9 hn9 next n f so sc X Z W D Cs F O Ft Ot Tc I R g hS hf1 hf2
  · exact law_op26 l hl B hX hbl hbA hL h4L hk9 hn9 next n f so sc X Z W D Cs F O Ft Ot Tc I R g hS hf1 hf2
  · exact law_op27 l hl B hX hbl hbA hL h4L hk9 hn9 next n f so sc X Z W D Cs F O Ft Ot Tc I R g hS hf1 hf2
  · refine z_tsO B 1428 dL_law_39 (Or.inr ?_) rfl ?_
    · rw [nI_toInt (by omega)]; omega
    · exact next n f so sc X Z W D Cs F O Ft Ot Tc I R g hS hf1 hf2
