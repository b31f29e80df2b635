set_option maxHeartbeats 8000000 in
set_option maxRecDepth 100000 in
theorem law_op0 (l : Launch) (hl : l.stackTraces = false) {K : zK} {p : Program} {e : Env} {s : State} {m : MethodId} {below : List Frame} {meth : Method} {c : Code} {A : Nat → Prop} {Q : State → Prop} {ret9 : Option FieldType} {nm9 : String} {tb9 : List ExceptionTableEntry} {args : Array Value} {b L ii k9 n9 : Nat} {xs : Nat → Int32} (B : zF K p l s m args meth c A cL_law 7 RL nm9 wsL_law ret9 tb9) (hX : va_X b L xs s s.heap) (hbl : b < s.heap.size) (hbA : ¬ A b) (hL : L ≤ 2048) (h4L : ii + 4 ≤ L) (hk9 : k9 + 16 ≤ 601024) (hn9 : n9 + 512 ≤ 7293034) {ax sa ao : Nat} {az ak tk tc am : Nat → Nat}
    (next : ∀ (n : Nat) (f : Nat → Option Nat) (so : Nat → Nat) (sc : Nat → Nat → Nat) (X : Nat → Int32) (Z : Nat → Nat → Int32) (W : Nat → Int32) (D : Nat → Nat → Int32) (Cs : Nat → Nat → Nat → Int32) (F : Nat → Int32) (O : Nat → Int32) (Ft : Nat → Int32) (Ot : Nat → Int32) (Tc : Nat → Nat → Int32) (I : Nat → Int32) (R : Nat → Nat → Int32) (g : Nat → Int64), rR n X Z W D Cs O I R → (∀ a, a < n → f a = some (so a)) → (∀ a, n ≤ a → a < 4 → f a = none) → zW K p l e zR s m args below meth c A Q (k9 + 16) (n9 + 512) (zFu K ax sa ao az ak tk tc am n f so sc X Z W D Cs F O Ft Ot Tc I R g) [(0, .ref b), (1, .ref ax), (2, .ref (am 0)), (3, .ref ao), (4, .int (nI ii))] [] 1428) : ∀ (n : Nat) (f : Nat → Option Nat) (so : Nat → Nat) (sc : Nat → Nat → Nat) (X : Nat → Int32) (Z : Nat → Nat → Int32) (W : Nat → Int32) (D : Nat → Nat → Int32) (Cs : Nat → Nat → Nat → Int32) (F : Nat → Int32) (O : Nat → Int32) (Ft : Nat → Int32) (Ot : Nat → Int32) (Tc : Nat → Nat → Int32) (I : Nat → Int32) (R : Nat → Nat → Int32) (g : Nat → Int64), rR n X Z W D Cs O I R → (∀ a, a < n → f a = some (so a)) → (∀ a, n ≤ a → a < 4 → f a = none) → zW K p l e zR s m args below meth c A Q k9 n9 (zFu K ax sa ao az ak tk tc am n f so sc X Z W D Cs F O Ft Ot Tc I R g) [(0, .ref b), (1, .ref ax), (2, .ref (am 0)), (3, .ref ao), (4, .int (nI ii))] [.int (nI 0)] 39 := by
  intro n f so sc X Z W D Cs F O Ft Ot Tc I R g hS hf1 hf2
  have hn4 := hS.1.2.1
  have h5 : ¬ (I 5) < 0 := by rw [hS.1.1]; exact nI_pos (by omega)
  have h6 : (I 5).toNatClampNeg ≤ 4 := by rw [hS.1.1, nI_clamp (by omega)]; exact hn4
  have hZ := hS.2.1.zw
  have hC := hS.2.2.2.1.1
  have h4 := hS.2.1.2.2.2
  have hW4 : (W 4) = 0 ∨ (W 4) = 1 := by rw [hS.2.1.2.2.1]; exact h4
  have h16 := hS.2.2.1.2.2.2.2.2.2.2.2.2.2.2
  have hO5 : (O 5) = 0 ∨ (O 5) = 1 := by rw [hS.2.2.1.2.2.2.2.2.2.2.2.2.2.1]; exact h16
  have hX2 := hS.2.2.1.1
  have hon := hS.1.2.2.2
  have hD3 : ∀ i, i < n → (D i 3) = 0 ∨ (D i 3) = 1 := fun i hi => by rw [(hS.1.2.2.1 i hi).2.2.1]; exact hon i
  have i01 : (0 : Int32) = 0 ∨ (0 : Int32) = 1 := Or.inl rfl
  have i11 : (1 : Int32) = 0 ∨ (1 : Int32) = 1 := Or.inr rfl
  obtain ⟨x1, hv1⟩ : ∃ x1, xs (nI ii + 1).toNatClampNeg = x1 := ⟨_, rfl⟩
  obtain ⟨x2, hv2⟩ : ∃ x2, xs (nI ii + 2).toNatClampNeg = x2 := ⟨_, rfl⟩
  obtain ⟨x3, hv3⟩ : ∃ x3, xs (nI ii + 3).toNatClampNeg = x3 := ⟨_, rfl⟩
  have site : (∃ i, i < n ∧ x1 = nI i) ∨ (∀ i, i < n → x1 ≠ nI i) := by
    by_cases h : ∃ i, i < n ∧ x1 = nI i
    · exact Or.inl h
    · exact Or.inr fun i hi q => h ⟨i, hi, q⟩
  have near : fX4_near n D x1 = none ∨ ∃ i, i < n ∧ fX4_near n D x1 = some i := z_nearLt n D x1
  have miss : (∀ i, i < n → x1 ≠ nI i) → x1 < 4 → ¬ x1 < 0 → f x1.toNatClampNeg = none := by
    intro hm q1 q2
    obtain ⟨j, hj, rfl⟩ := nI_of q2
    have hj4 : j < 4 := (nI_ltI (b := 4) hj (by decide)).mp q1
    rw [nI_clamp hj]
    exact hf2 j (Nat.le_of_not_lt fun q => hm j q rfl) hj4
  · refine z_tsI B 164 dL_law_39 (by decide) (by decide) rfl rfl ?_
    refine z_to (bc := [zXo ax (az 0) sa (ak 0) (tk 0) (tc 0) X, zZo K az Z W, zMo K am I R]) (br := [zSa K sa f, zSO n so sc D, zSC K n sc Cs, zCo K ak F O, zCo K tk Ft Ot, zCa K tc Tc, zOu K ao g]) [0, 1, 8] [2, 3, 4, 5, 6, 7, 9] (zsp rfl rfl rfl) ?_
    refine aL_setAddress l hl ao K ax az sa (ak 0) (tk 0) (tc 0) X Z W x1 x2 x3 am I R ([zSa K sa f, zSO n so sc D, zSC K n sc Cs, zCo K ak F O, zCo K tk Ft Ot, zCa K tc Tc, zOu K ao g] : zB).flatten ⟨(q_setAddress (x1 := x1) (x2 := x2) (x3 := x3) hS).1, trivial⟩ B hX hbl hbA (r_hi hL h4L (k := 1) (by decide)) hv1 (r_hi hL h4L (k := 2) (by decide)) hv2 (r_hi hL h4L (k := 3) (by decide)) hv3 (by omega) (by omega) ?_
    refine z_fro (bs := zFu K ax sa ao az ak tk tc am n f so sc X ((fL_setAddress X Z W x1 x2 x3).2) W D Cs F O Ft Ot Tc ((fX5_setAddress I R x1 x2 x3).1) ((fX5_setAddress I R x1 x2 x3).2) g) (bc := [zXo ax (az 0) sa (ak 0) (tk 0) (tc 0) X, zZo K az ((fL_setAddress X Z W x1 x2 x3).2) W, zMo K am ((fX5_setAddress I R x1 x2 x3).1) ((fX5_setAddress I R x1 x2 x3).2)]) (br := [zSa K sa f, zSO n so sc D, zSC K n sc Cs, zCo K ak F O, zCo K tk Ft Ot, zCa K tc Tc, zOu K ao g]) [0, 1, 8] [2, 3, 4, 5, 6, 7, 9] (zsp rfl rfl rfl) ?_
    exact next n f so sc X ((fL_setAddress X Z W x1 x2 x3).2) W D Cs F O Ft Ot Tc ((fX5_setAddress I R x1 x2 x3).1) ((fX5_setAddress I R x1 x2 x3).2) g (q_setAddress (x1 := x1) (x2 := x2) (x3 := x3) hS).2 hf1 hf2
set_option maxHeartbeats 8000000 in
set_option maxRecDepth 100000 in
theorem law_op1 (l : Launch) (hl : l.stackTraces = false) {K : zK} {p : Program} {e : Env} {s : State} {m : MethodId} {below : List Frame} {meth : Method} {c : Code} {A : Nat → Prop} {Q : State → Prop} {ret9 : Option FieldType} {nm9 : String} {tb9 : List ExceptionTableEntry} {args : Array Value} {b L ii k9 n9 : Nat} {xs : Nat → Int32} (B : zF K p l s m args meth c A cL_law 7 RL nm9 wsL_law ret9 tb9) (hX : va_X b L xs s s.heap) (hbl : b < s.heap.size) (hbA : ¬ A b) (hL : L ≤ 2048) (h4L : ii + 4 ≤ L) (hk9 : k9 + 16 ≤ 601024) (hn9 : n9 + 512 ≤ 7293034) {ax sa ao : Nat} {az ak tk tc am : Nat → Nat}
    (next : ∀ (n : Nat) (f : Nat → Option Nat) (so : Nat → Nat) (sc : Nat → Nat → Nat) (X : Nat → Int32) (Z : Nat → Nat → Int32) (W : Nat → Int32) (D : Nat → Nat → Int32) (Cs : Nat → Nat → Nat → Int32) (F : Nat → Int32) (O : Nat → Int32) (Ft : Nat → Int32) (Ot : Nat → Int32) (Tc : Nat → Nat → Int32) (I : Nat → Int32) (R : Nat → Nat → Int32) (g : Nat → Int64), rR n X Z W D Cs O I R → (∀ a, a < n → f a = some (so a)) → (∀ a, n ≤ a → a < 4 → f a = none) → zW K p l e zR s m args below meth c A Q (k9 + 16) (n9 + 512) (zFu K ax sa ao az ak tk tc am n f so sc X Z W D Cs F O Ft Ot Tc I R g) [(0, .ref b), (1, .ref ax), (2, .ref (am 0)), (3, .ref ao), (4, .int (nI ii))] [] 1428) : ∀ (n : Nat) (f : Nat → Option Nat) (so : Nat → Nat) (sc : Nat → Nat → Nat) (X : Nat → Int32) (Z : Nat → Nat → Int32) (W : Nat → Int32) (D : Nat → Nat → Int32) (Cs : Nat → Nat → Nat → Int32) (F : Nat → Int32) (O : Nat → Int32) (Ft : Nat → Int32) (Ot : Nat → Int32) (Tc : Nat → Nat → Int32) (I : Nat → Int32) (R : Nat → Nat → Int32) (g : Nat → Int64), rR n X Z W D Cs O I R → (∀ a, a < n → f a = some (so a)) → (∀ a, n ≤ a → a < 4 → f a = none) → zW K p l e zR s m args below meth c A Q k9 n9 (zFu K ax sa ao az ak tk tc am n f so sc X Z W D Cs F O Ft Ot Tc I R g) [(0, .ref b), (1, .ref ax), (2, .ref (am 0)), (3, .ref ao), (4, .int (nI ii))] [.int (nI 1)] 39 := by
  intro n f so sc X Z W D Cs F O Ft Ot Tc I R g hS hf1 hf2
  have hn4 := hS.1.2.1
  have h5 : ¬ (I 5) < 0 := by rw [hS.1.1]; exact nI_pos (by omega)
  have h6 : (I 5).toNatClampNeg ≤ 4 := by rw [hS.1.1, nI_clamp (by omega)]; exact hn4
  have hZ := hS.2.1.zw
  have hC := hS.2.2.2.1.1
  have h4 := hS.2.1.2.2.2
  have hW4 : (W 4) = 0 ∨ (W 4) = 1 := by rw [hS.2.1.2.2.1]; exact h4
  have h16 := hS.2.2.1.2.2.2.2.2.2.2.2.2.2.2
  have hO5 : (O 5) = 0 ∨ (O 5) = 1 := by rw [hS.2.2.1.2.2.2.2.2.2.2.2.2.2.1]; exact h16
  have hX2 := hS.2.2.1.1
  have hon := hS.1.2.2.2
  have hD3 : ∀ i, i < n → (D i 3) = 0 ∨ (D i 3) = 1 := fun i hi => by rw [(hS.1.2.2.1 i hi).2.2.1]; exact hon i
  have i01 : (0 : Int32) = 0 ∨ (0 : Int32) = 1 := Or.inl rfl
  have i11 : (1 : Int32) = 0 ∨ (1 : Int32) = 1 := Or.inr rfl
  obtain ⟨x1, hv1⟩ : ∃ x1, xs (nI ii + 1).toNatClampNeg = x1 := ⟨_, rfl⟩
  obtain ⟨x2, hv2⟩ : ∃ x2, xs (nI ii + 2).toNatClampNeg = x2 := ⟨_, rfl⟩
  obtain ⟨x3, hv3⟩ : ∃ x3, xs (nI ii + 3).toNatClampNeg = x3 := ⟨_, rfl⟩
  have site : (∃ i, i < n ∧ x1 = nI i) ∨ (∀ i, i < n → x1 ≠ nI i) := by
    by_cases h : ∃ i, i < n ∧ x1 = nI i
    · exact Or.inl h
    · exact Or.inr fun i hi q => h ⟨i, hi, q⟩
  have near : fX4_near n D x1 = none ∨ ∃ i, i < n ∧ fX4_near n D x1 = some i := z_nearLt n D x1
  have miss : (∀ i, i < n → x1 ≠ nI i) → x1 < 4 → ¬ x1 < 0 → f x1.toNatClampNeg = none := by
    intro hm q1 q2
    obtain ⟨j, hj, rfl⟩ := nI_of q2
    have hj4 : j < 4 := (nI_ltI (b := 4) hj (by decide)).mp q1
    rw [nI_clamp hj]
    exact hf2 j (Nat.le_of_not_lt fun q => hm j q rfl) hj4
  · refine z_tsI B 224 dL_law_39 (by decide) (by decide) rfl rfl ?_
    refine z_to (bc := [zXo ax (az 0) sa (ak 0) (tk 0) (tc 0) X, zZo K az Z W, zMo K am I R]) (br := [zSa K sa f, zSO n so sc D, zSC K n sc Cs, zCo K ak F O, zCo K tk Ft Ot, zCa K tc Tc, zOu K ao g]) [0, 1, 8] [2, 3, 4, 5, 6, 7, 9] (zsp rfl rfl rfl) ?_
    refine aL_setAlias l hl ao K ax az sa (ak 0) (tk 0) (tc 0) X Z W x1 x2 x3 am I R ([zSa K sa f, zSO n so sc D, zSC K n sc Cs, zCo K ak F O, zCo K tk Ft Ot, zCa K tc Tc, zOu K ao g] : zB).flatten ⟨(q_setAlias (x1 := x1) (x2 := x2) (x3 := x3) hS).1, trivial⟩ B hX hbl hbA (r_hi hL h4L (k := 1) (by decide)) hv1 (r_hi hL h4L (k := 2) (by decide)) hv2 (r_hi hL h4L (k := 3) (by decide)) hv3 (by omega) (by omega) ?_
    refine z_fro (bs := zFu K ax sa ao az ak tk tc am n f so sc X ((fL_setAlias X Z W x1 x2 x3).2) W D Cs F O Ft Ot Tc ((fX5_setAlias I R x1 x2 x3).1) ((fX5_setAlias I R x1 x2 x3).2) g) (bc := [zXo ax (az 0) sa (ak 0) (tk 0) (tc 0) X, zZo K az ((fL_setAlias X Z W x1 x2 x3).2) W, zMo K am ((fX5_setAlias I R x1 x2 x3).1) ((fX5_setAlias I R x1 x2 x3).2)]) (br := [zSa K sa f, zSO n so sc D, zSC K n sc Cs, zCo K ak F O, zCo K tk Ft Ot, zCa K tc Tc, zOu K ao g]) [0, 1, 8] [2, 3, 4, 5, 6, 7, 9] (zsp rfl rfl rfl) ?_
    exact next n f so sc X ((fL_setAlias X Z W x1 x2 x3).2) W D Cs F O Ft Ot Tc ((fX5_setAlias I R x1 x2 x3).1) ((fX5_setAlias I R x1 x2 x3).2) g (q_setAlias (x1 := x1) (x2 := x2) (x3 := x3) hS).2 hf1 hf2
set_option maxHeartbeats 8000000 in
set_option maxRecDepth 100000 in
theorem law_op2 (l : Launch) (hl : l.stackTraces = false) {K : zK} {p : Program} {e : Env} {s : State} {m : MethodId} {below : List Frame} {meth : Method} {c : Code} {A : Nat → Prop} {Q : State → Prop} {ret9 : Option FieldType} {nm9 : String} {tb9 : List ExceptionTableEntry} {args : Array Value} {b L ii k9 n9 : Nat} {xs : Nat → Int32} (B : zF K p l s m args meth c A cL_law 7 RL nm9 wsL_law ret9 tb9) (hX : va_X b L xs s s.heap) (hbl : b < s.heap.size) (hbA : ¬ A b) (hL : L ≤ 2048) (h4L : ii + 4 ≤ L) (hk9 : k9 + 16 ≤ 601024) (hn9 : n9 + 512 ≤ 7293034) {ax sa ao : Nat} {az ak tk tc am : Nat → Nat}
    (next : ∀ (n : Nat) (f : Nat → Option Nat) (so : Nat → Nat) (sc : Nat → Nat → Nat) (X : Nat → Int32) (Z : Nat → Nat → Int32) (W : Nat → Int32) (D : Nat → Nat → Int32) (Cs : Nat → Nat → Nat → Int32) (F : Nat → Int32) (O : Nat → Int32) (Ft : Nat → Int32) (Ot : Nat → Int32) (Tc : Nat → Nat → Int32) (I : Nat → Int32) (R : Nat → Nat → Int32) (g : Nat → Int64), rR n X Z W D Cs O I R → (∀ a, a < n → f a = some (so a)) → (∀ a, n ≤ a → a < 4 → f a = none) → zW K p l e zR s m args below meth c A Q (k9 + 16) (n9 + 512) (zFu K ax sa ao az ak tk tc am n f so sc X Z W D Cs F O Ft Ot Tc I R g) [(0, .ref b), (1, .ref ax), (2, .ref (am 0)), (3, .ref ao), (4, .int (nI ii))] [] 1428) : ∀ (n : Nat) (f : Nat → Option Nat) (so : Nat → Nat) (sc : Nat → Nat → Nat) (X : Nat → Int32) (Z : Nat → Nat → Int32) (W : Nat → Int32) (D : Nat → Nat → Int32) (Cs : Nat → Nat → Nat → Int32) (F : Nat → Int32) (O : Nat → Int32) (Ft : Nat → Int32) (Ot : Nat → Int32) (Tc : Nat → Nat → Int32) (I : Nat → Int32) (R : Nat → Nat → Int32) (g : Nat → Int64), rR n X Z W D Cs O I R → (∀ a, a < n → f a = some (so a)) → (∀ a, n ≤ a → a < 4 → f a = none) → zW K p l e zR s m args below meth c A Q k9 n9 (zFu K ax sa ao az ak tk tc am n f so sc X Z W D Cs F O Ft Ot Tc I R g) [(0, .ref b), (1, .ref ax), (2, .ref (am 0)), (3, .ref ao), (4, .int (nI ii))] [.int (nI 2)] 39 := by
  intro n f so sc X Z W D Cs F O Ft Ot Tc I R g hS hf1 hf2
  have hn4 := hS.1.2.1
  have h5 : ¬ (I 5) < 0 := by rw [hS.1.1]; exact nI_pos (by omega)
  have h6 : (I 5).toNatClampNeg ≤ 4 := by rw [hS.1.1, nI_clamp (by omega)]; exact hn4
  have hZ := hS.2.1.zw
  have hC := hS.2.2.2.1.1
  have h4 := hS.2.1.2.2.2
  have hW4 : (W 4) = 0 ∨ (W 4) = 1 := by rw [hS.2.1.2.2.1]; exact h4
  have h16 := hS.2.2.1.2.2.2.2.2.2.2.2.2.2.2
  have hO5 : (O 5) = 0 ∨ (O 5) = 1 := by rw [hS.2.2.1.2.2.2.2.2.2.2.2.2.2.1]; exact h16
  have hX2 := hS.2.2.1.1
  have hon := hS.1.2.2.2
  have hD3 : ∀ i, i < n → (D i 3) = 0 ∨ (D i 3) = 1 := fun i hi => by rw [(hS.1.2.2.1 i hi).2.2.1]; exact hon i
  have i01 : (0 : Int32) = 0 ∨ (0 : Int32) = 1 := Or.inl rfl
  have i11 : (1 : Int32) = 0 ∨ (1 : Int32) = 1 := Or.inr rfl
  obtain ⟨x1, hv1⟩ : ∃ x1, xs (nI ii + 1).toNatClampNeg = x1 := ⟨_, rfl⟩
  obtain ⟨x2, hv2⟩ : ∃ x2, xs (nI ii + 2).toNatClampNeg = x2 := ⟨_, rfl⟩
  obtain ⟨x3, hv3⟩ : ∃ x3, xs (nI ii + 3).toNatClampNeg = x3 := ⟨_, rfl⟩
  have site : (∃ i, i < n ∧ x1 = nI i) ∨ (∀ i, i < n → x1 ≠ nI i) := by
    by_cases h : ∃ i, i < n ∧ x1 = nI i
    · exact Or.inl h
    · exact Or.inr fun i hi q => h ⟨i, hi, q⟩
  have near : fX4_near n D x1 = none ∨ ∃ i, i < n ∧ fX4_near n D x1 = some i := z_nearLt n D x1
  have miss : (∀ i, i < n → x1 ≠ nI i) → x1 < 4 → ¬ x1 < 0 → f x1.toNatClampNeg = none := by
    intro hm q1 q2
    obtain ⟨j, hj, rfl⟩ := nI_of q2
    have hj4 : j < 4 := (nI_ltI (b := 4) hj (by decide)).mp q1
    rw [nI_clamp hj]
    exact hf2 j (Nat.le_of_not_lt fun q => hm j q rfl) hj4
  · refine z_tsI B 284 dL_law_39 (by decide) (by decide) rfl rfl ?_
    refine z_to (bc := [zXo ax (az 0) sa (ak 0) (tk 0) (tc 0) X, zZo K az Z W, zOu K ao g, zMo K am I R]) (br := [zSa K sa f, zSO n so sc D, zSC K n sc Cs, zCo K ak F O, zCo K tk Ft Ot, zCa K tc Tc]) [0, 1, 9, 8] [2, 3, 4, 5, 6, 7] (zsp rfl rfl rfl) ?_
    refine aL_remove l hl K ax az sa (ak 0) (tk 0) (tc 0) X Z W x1 ao g am I R ([zSa K sa f, zSO n so sc D, zSC K n sc Cs, zCo K ak F O, zCo K tk Ft Ot, zCa K tc Tc] : zB).flatten (q_remove (x1 := x1) (g := g) hS).1 B hX hbl hbA (r_hi hL h4L (k := 1) (by decide)) hv1 (by omega) (by omega) ?_
    refine z_fro (bs := zFu K ax sa ao az ak tk tc am n f so sc X ((fL_remove X Z W x1 g).2.1) W D Cs F O Ft Ot Tc ((fX5_remove I R x1).2.1) ((fX5_remove I R x1).2.2) ((fL_remove X Z W x1 g).2.2)) (bc := [zXo ax (az 0) sa (ak 0) (tk 0) (tc 0) X, zZo K az ((fL_remove X Z W x1 g).2.1) W, zOu K ao ((fL_remove X Z W x1 g).2.2), zMo K am ((fX5_remove I R x1).2.1) ((fX5_remove I R x1).2.2)]) (br := [zSa K sa f, zSO n so sc D, zSC K n sc Cs, zCo K ak F O, zCo K tk Ft Ot, zCa K tc Tc]) [0, 1, 9, 8] [2, 3, 4, 5, 6, 7] (zsp rfl rfl rfl) ?_
    exact next n f so sc X ((fL_remove X Z W x1 g).2.1) W D Cs F O Ft Ot Tc ((fX5_remove I R x1).2.1) ((fX5_remove I R x1).2.2) ((fL_remove X Z W x1 g).2.2) (q_remove (x1 := x1) (g := g) hS).2 hf1 hf2
set_option maxHeartbeats 8000000 in
set_option maxRecDepth 100000 in
theorem law_op3 (l : Launch) (hl : l.stackTraces = false) {K : zK} {p : Program} {e : Env} {s : State} {m : MethodId} {below : List Frame} {meth : Method} {c : Code} {A : Nat → Prop} {Q : State → Prop} {ret9 : Option FieldType} {nm9 : String} {tb9 : List ExceptionTableEntry} {args : Array Value} {b L ii k9 n9 : Nat} {xs : Nat → Int32} (B : zF K p l s m args meth c A cL_law 7 RL nm9 wsL_law ret9 tb9) (hX : va_X b L xs s s.heap) (hbl : b < s.heap.size) (hbA : ¬ A b) (hL : L ≤ 2048) (h4L : ii + 4 ≤ L) (hk9 : k9 + 16 ≤ 601024) (hn9 : n9 + 512 ≤ 7293034) {ax sa ao : Nat} {az ak tk tc am : Nat → Nat}
    (next : ∀ (n : Nat) (f : Nat → Option Nat) (so : Nat → Nat) (sc : Nat → Nat → Nat) (X : Nat → Int32) (Z : Nat → Nat → Int32) (W : Nat → Int32) (D : Nat → Nat → Int32) (Cs : Nat → Nat → Nat → Int32) (F : Nat → Int32) (O : Nat → Int32) (Ft : Nat → Int32) (Ot : Nat → Int32) (Tc : Nat → Nat → Int32) (I : Nat → Int32) (R : Nat → Nat → Int32) (g : Nat → Int64), rR n X Z W D Cs O I R → (∀ a, a < n → f a = some (so a)) → (∀ a, n ≤ a → a < 4 → f a = none) → zW K p l e zR s m args below meth c A Q (k9 + 16) (n9 + 512) (zFu K ax sa ao az ak tk tc am n f so sc X Z W D Cs F O Ft Ot Tc I R g) [(0, .ref b), (1, .ref ax), (2, .ref (am 0)), (3, .ref ao), (4, .int (nI ii))] [] 1428) : ∀ (n : Nat) (f : Nat → Option Nat) (so : Nat → Nat) (sc : Nat → Nat → Nat) (X : Nat → Int32) (Z : Nat → Nat → Int32) (W : Nat → Int32) (D : Nat → Nat → Int32) (Cs : Nat → Nat → Nat → Int32) (F : Nat → Int32) (O : Nat → Int32) (Ft : Nat → Int32) (Ot : Nat → Int32) (Tc : Nat → Nat → Int32) (I : Nat → Int32) (R : Nat → Nat → Int32) (g : Nat → Int64), rR n X Z W D Cs O I R → (∀ a, a < n → f a = some (so a)) → (∀ a, n ≤ a → a < 4 → f a = none) → zW K p l e zR s m args below meth c A Q k9 n9 (zFu K ax sa ao az ak tk tc am n f so sc X Z W D Cs F O Ft Ot Tc I R g) [(0, .ref b), (1, .ref ax), (2, .ref (am 0)), (3, .ref ao), (4, .int (nI ii))] [.int (nI 3)] 39 := by
  intro n f so sc X Z W D Cs F O Ft Ot Tc I R g hS hf1 hf2
  have hn4 := hS.1.2.1
  have h5 : ¬ (I 5) < 0 := by rw [hS.1.1]; exact nI_pos (by omega)
  have h6 : (I 5).toNatClampNeg ≤ 4 := by rw [hS.1.1, nI_clamp (by omega)]; exact hn4
  have hZ := hS.2.1.zw
  have hC := hS.2.2.2.1.1
  have h4 := hS.2.1.2.2.2
  have hW4 : (W 4) = 0 ∨ (W 4) = 1 := by rw [hS.2.1.2.2.1]; exact h4
  have h16 := hS.2.2.1.2.2.2.2.2.2.2.2.2.2.2
  have hO5 : (O 5) = 0 ∨ (O 5) = 1 := by rw [hS.2.2.1.2.2.2.2.2.2.2.2.2.2.1]; exact h16
  have hX2 := hS.2.2.1.1
  have hon := hS.1.2.2.2
  have hD3 : ∀ i, i < n → (D i 3) = 0 ∨ (D i 3) = 1 := fun i hi => by rw [(hS.1.2.2.1 i hi).2.2.1]; exact hon i
  have i01 : (0 : Int32) = 0 ∨ (0 : Int32) = 1 := Or.inl rfl
  have i11 : (1 : Int32) = 0 ∨ (1 : Int32) = 1 := Or.inr rfl
  obtain ⟨x1, hv1⟩ : ∃ x1, xs (nI ii + 1).toNatClampNeg = x1 := ⟨_, rfl⟩
  obtain ⟨x2, hv2⟩ : ∃ x2, xs (nI ii + 2).toNatClampNeg = x2 := ⟨_, rfl⟩
  obtain ⟨x3, hv3⟩ : ∃ x3, xs (nI ii + 3).toNatClampNeg = x3 := ⟨_, rfl⟩
  have site : (∃ i, i < n ∧ x1 = nI i) ∨ (∀ i, i < n → x1 ≠ nI i) := by
    by_cases h : ∃ i, i < n ∧ x1 = nI i
    · exact Or.inl h
    · exact Or.inr fun i hi q => h ⟨i, hi, q⟩
  have near : fX4_near n D x1 = none ∨ ∃ i, i < n ∧ fX4_near n D x1 = some i := z_nearLt n D x1
  have miss : (∀ i, i < n → x1 ≠ nI i) → x1 < 4 → ¬ x1 < 0 → f x1.toNatClampNeg = none := by
    intro hm q1 q2
    obtain ⟨j, hj, rfl⟩ := nI_of q2
    have hj4 : j < 4 := (nI_ltI (b := 4) hj (by decide)).mp q1
    rw [nI_clamp hj]
    exact hf2 j (Nat.le_of_not_lt fun q => hm j q rfl) hj4
  · refine z_tsI B 347 dL_law_39 (by decide) (by decide) rfl rfl ?_
    refine z_to (bc := [zXo ax (az 0) sa (ak 0) (tk 0) (tc 0) X, zZo K az Z W, zOu K ao g, zMo K am I R]) (br := [zSa K sa f, zSO n so sc D, zSC K n sc Cs, zCo K ak F O, zCo K tk Ft Ot, zCa K tc Tc]) [0, 1, 9, 8] [2, 3, 4, 5, 6, 7] (zsp rfl rfl rfl) ?_
    refine aL_setBound l hl K ax az sa (ak 0) (tk 0) (tc 0) X Z W x1 ao g am I R ([zSa K sa f, zSO n so sc D, zSC K n sc Cs, zCo K ak F O, zCo K tk Ft Ot, zCa K tc Tc] : zB).flatten (q_setBound (x1 := x1) (g := g) hS).1 B hX hbl hbA (r_hi hL h4L (k := 1) (by decide)) hv1 (by omega) (by omega) ?_
    refine z_fro (bs := zFu K ax sa ao az ak tk tc am n f so sc X Z ((fL_setBound X Z W x1 g).2.1) D Cs F O Ft Ot Tc ((fX5_setBound I R x1).2) R ((fL_setBound X Z W x1 g).2.2)) (bc := [zXo ax (az 0) sa (ak 0) (tk 0) (tc 0) X, zZo K az Z ((fL_setBound X Z W x1 g).2.1), zOu K ao ((fL_setBound X Z W x1 g).2.2), zMo K am ((fX5_setBound I R x1).2) R]) (br := [zSa K sa f, zSO n so sc D, zSC K n sc Cs, zCo K ak F O, zCo K tk Ft Ot, zCa K tc Tc]) [0, 1, 9, 8] [2, 3, 4, 5, 6, 7] (zsp rfl rfl rfl) ?_
    exact next n f so sc X Z ((fL_setBound X Z W x1 g).2.1) D Cs F O Ft Ot Tc ((fX5_setBound I R x1).2) R ((fL_setBound X Z W x1 g).2.2) (q_setBound (x1 := x1) (g := g) hS).2 hf1 hf2
set_option maxHeartbeats 8000000 in
set_option maxRecDepth 100000 in
theorem law_op4 (l : Launch) (hl : l.stackTraces = false) {K : zK} {p : Program} {e : Env} {s : State} {m : MethodId} {below : List Frame} {meth : Method} {c : Code} {A : Nat → Prop} {Q : State → Prop} {ret9 : Option FieldType} {nm9 : String} {tb9 : List ExceptionTableEntry} {args : Array Value} {b L ii k9 n9 : Nat} {xs : Nat → Int32} (B : zF K p l s m args meth c A cL_law 7 RL nm9 wsL_law ret9 tb9) (hX : va_X b L xs s s.heap) (hbl : b < s.heap.size) (hbA : ¬ A b) (hL : L ≤ 2048) (h4L : ii + 4 ≤ L) (hk9 : k9 + 16 ≤ 601024) (hn9 : n9 + 512 ≤ 7293034) {ax sa ao : Nat} {az ak tk tc am : Nat → Nat}
    (next : ∀ (n : Nat) (f : Nat → Option Nat) (so : Nat → Nat) (sc : Nat → Nat → Nat) (X : Nat → Int32) (Z : Nat → Nat → Int32) (W : Nat → Int32) (D : Nat → Nat → Int32) (Cs : Nat → Nat → Nat → Int32) (F : Nat → Int32) (O : Nat → Int32) (Ft : Nat → Int32) (Ot : Nat → Int32) (Tc : Nat → Nat → Int32) (I : Nat → Int32) (R : Nat → Nat → Int32) (g : Nat → Int64), rR n X Z W D Cs O I R → (∀ a, a < n → f a = some (so a)) → (∀ a, n ≤ a → a < 4 → f a = none) → zW K p l e zR s m args below meth c A Q (k9 + 16) (n9 + 512) (zFu K ax sa ao az ak tk tc am n f so sc X Z W D Cs F O Ft Ot Tc I R g) [(0, .ref b), (1, .ref ax), (2, .ref (am 0)), (3, .ref ao), (4, .int (nI ii))] [] 1428) : ∀ (n : Nat) (f : Nat → Option Nat) (so : Nat → Nat) (sc : Nat → Nat → Nat) (X : Nat → Int32) (Z : Nat → Nat → Int32) (W : Nat → Int32) (D : Nat → Nat → Int32) (Cs : Nat → Nat → Nat → Int32) (F : Nat → Int32) (O : Nat → Int32) (Ft : Nat → Int32) (Ot : Nat → Int32) (Tc : Nat → Nat → Int32) (I : Nat → Int32) (R : Nat → Nat → Int32) (g : Nat → Int64), rR n X Z W D Cs O I R → (∀ a, a < n → f a = some (so a)) → (∀ a, n ≤ a → a < 4 → f a = none) → zW K p l e zR s m args below meth c A Q k9 n9 (zFu K ax sa ao az ak tk tc am n f so sc X Z W D Cs F O Ft Ot Tc I R g) [(0, .ref b), (1, .ref ax), (2, .ref (am 0)), (3, .ref ao), (4, .int (nI ii))] [.int (nI 4)] 39 := by
  intro n f so sc X Z W D Cs F O Ft Ot Tc I R g hS hf1 hf2
  have hn4 := hS.1.2.1
  have h5 : ¬ (I 5) < 0 := by rw [hS.1.1]; exact nI_pos (by omega)
  have h6 : (I 5).toNatClampNeg ≤ 4 := by rw [hS.1.1, nI_clamp (by omega)]; exact hn4
  have hZ := hS.2.1.zw
  have hC := hS.2.2.2.1.1
  have h4 := hS.2.1.2.2.2
  have hW4 : (W 4) = 0 ∨ (W 4) = 1 := by rw [hS.2.1.2.2.1]; exact h4
  have h16 := hS.2.2.1.2.2.2.2.2.2.2.2.2.2.2
  have hO5 : (O 5) = 0 ∨ (O 5) = 1 := by rw [hS.2.2.1.2.2.2.2.2.2.2.2.2.2.1]; exact h16
  have hX2 := hS.2.2.1.1
  have hon := hS.1.2.2.2
  have hD3 : ∀ i, i < n → (D i 3) = 0 ∨ (D i 3) = 1 := fun i hi => by rw [(hS.1.2.2.1 i hi).2.2.1]; exact hon i
  have i01 : (0 : Int32) = 0 ∨ (0 : Int32) = 1 := Or.inl rfl
  have i11 : (1 : Int32) = 0 ∨ (1 : Int32) = 1 := Or.inr rfl
  obtain ⟨x1, hv1⟩ : ∃ x1, xs (nI ii + 1).toNatClampNeg = x1 := ⟨_, rfl⟩
  obtain ⟨x2, hv2⟩ : ∃ x2, xs (nI ii + 2).toNatClampNeg = x2 := ⟨_, rfl⟩
  obtain ⟨x3, hv3⟩ : ∃ x3, xs (nI ii + 3).toNatClampNeg = x3 := ⟨_, rfl⟩
  have site : (∃ i, i < n ∧ x1 = nI i) ∨ (∀ i, i < n → x1 ≠ nI i) := by
    by_cases h : ∃ i, i < n ∧ x1 = nI i
    · exact Or.inl h
    · exact Or.inr fun i hi q => h ⟨i, hi, q⟩
  have near : fX4_near n D x1 = none ∨ ∃ i, i < n ∧ fX4_near n D x1 = some i := z_nearLt n D x1
  have miss : (∀ i, i < n → x1 ≠ nI i) → x1 < 4 → ¬ x1 < 0 → f x1.toNatClampNeg = none := by
    intro hm q1 q2
    obtain ⟨j, hj, rfl⟩ := nI_of q2
    have hj4 : j < 4 := (nI_ltI (b := 4) hj (by decide)).mp q1
    rw [nI_clamp hj]
    exact hf2 j (Nat.le_of_not_lt fun q => hm j q rfl) hj4
  · by_cases hy1 : x1 = 0
    · refine z_tsI B 403 dL_law_39 (by decide) (by decide) rfl rfl ?_
      refine z_to (bc := [zXo ax (az 0) sa (ak 0) (tk 0) (tc 0) X, zZo K az Z W, zMo K am I R]) (br := [zSa K sa f, zSO n so sc D, zSC K n sc Cs, zCo K ak F O, zCo K tk Ft Ot, zCa K tc Tc, zOu K ao g]) [0, 1, 8] [2, 3, 4, 5, 6, 7, 9] (zsp rfl rfl rfl) ?_
      refine aL_setAuthority_0 l hl ao K ax az sa (ak 0) (tk 0) (tc 0) X Z W am I R x1 hy1 hW4 h4 ([zSa K sa f, zSO n so sc D, zSC K n sc Cs, zCo K ak F O, zCo K tk Ft Ot, zCa K tc Tc, zOu K ao g] : zB).flatten (q_setAuthority i01 hS).1 B hX hbl hbA (r_hi hL h4L (k := 1) (by decide)) hv1 (by omega) (by omega) ?_
      refine z_fro (bs := zFu K ax sa ao az ak tk tc am n f so sc X Z ((fX4_setAuthority X Z W 0).2) D Cs F O Ft Ot Tc ((fX5_setAuthority I R 0).2) R g) (bc := [zXo ax (az 0) sa (ak 0) (tk 0) (tc 0) X, zZo K az Z ((fX4_setAuthority X Z W 0).2), zMo K am ((fX5_setAuthority I R 0).2) R]) (br := [zSa K sa f, zSO n so sc D, zSC K n sc Cs, zCo K ak F O, zCo K tk Ft Ot, zCa K tc Tc, zOu K ao g]) [0, 1, 8] [2, 3, 4, 5, 6, 7, 9] (zsp rfl rfl rfl) ?_
      exact next n f so sc X Z ((fX4_setAuthority X Z W 0).2) D Cs F O Ft Ot Tc ((fX5_setAuthority I R 0).2) R g (q_setAuthority i01 hS).2 hf1 hf2
    · refine z_tsI B 403 dL_law_39 (by decide) (by decide) rfl rfl ?_
      refine z_to (bc := [zXo ax (az 0) sa (ak 0) (tk 0) (tc 0) X, zZo K az Z W, zMo K am I R]) (br := [zSa K sa f, zSO n so sc D, zSC K n sc Cs, zCo K ak F O, zCo K tk Ft Ot, zCa K tc Tc, zOu K ao g]) [0, 1, 8] [2, 3, 4, 5, 6, 7, 9] (zsp rfl rfl rfl) ?_
      refine aL_setAuthority_1 l hl ao K ax az sa (ak 0) (tk 0) (tc 0) X Z W am I R x1 hy1 hW4 h4 ([zSa K sa f, zSO n so sc D, zSC K n sc Cs, zCo K ak F O, zCo K tk Ft Ot, zCa K tc Tc, zOu K ao g] : zB).flatten (q_setAuthority i11 hS).1 B hX hbl hbA (r_hi hL h4L (k := 1) (by decide)) hv1 (by omega) (by omega) ?_
      refine z_fro (bs := zFu K ax sa ao az ak tk tc am n f so sc X Z ((fX4_setAuthority X Z W 1).2) D Cs F O Ft Ot Tc ((fX5_setAuthority I R 1).2) R g) (bc := [zXo ax (az 0) sa (ak 0) (tk 0) (tc 0) X, zZo K az Z ((fX4_setAuthority X Z W 1).2), zMo K am ((fX5_setAuthority I R 1).2) R]) (br := [zSa K sa f, zSO n so sc D, zSC K n sc Cs, zCo K ak F O, zCo K tk Ft Ot, zCa K tc Tc, zOu K ao g]) [0, 1, 8] [2, 3, 4, 5, 6, 7, 9] (zsp rfl rfl rfl) ?_
      exact next n f so sc X Z ((fX4_setAuthority X Z W 1).2) D Cs F O Ft Ot Tc ((fX5_setAuthority I R 1).2) R g (q_setAuthority i11 hS).2 hf1 hf2
set_option maxHeartbeats 8000000 in
set_option maxRecDepth 100000 in
theorem law_op5 (l : Launch) (hl : l.stackTraces = false) {K : zK} {p : Program} {e : Env} {s : State} {m : MethodId} {below : List Frame} {meth : Method} {c : Code} {A : Nat → Prop} {Q : State → Prop} {ret9 : Option FieldType} {nm9 : String} {tb9 : List ExceptionTableEntry} {args : Array Value} {b L ii k9 n9 : Nat} {xs : Nat → Int32} (B : zF K p l s m args meth c A cL_law 7 RL nm9 wsL_law ret9 tb9) (hX : va_X b L xs s s.heap) (hbl : b < s.heap.size) (hbA : ¬ A b) (hL : L ≤ 2048) (h4L : ii + 4 ≤ L) (hk9 : k9 + 16 ≤ 601024) (hn9 : n9 + 512 ≤ 7293034) {ax sa ao : Nat} {az ak tk tc am : Nat → Nat}
    (next : ∀ (n : Nat) (f : Nat → Option Nat) (so : Nat → Nat) (sc : Nat → Nat → Nat) (X : Nat → Int32) (Z : Nat → Nat → Int32) (W : Nat → Int32) (D : Nat → Nat → Int32) (Cs : Nat → Nat → Nat → Int32) (F : Nat → Int32) (O : Nat → Int32) (Ft : Nat → Int32) (Ot : Nat → Int32) (Tc : Nat → Nat → Int32) (I : Nat → Int32) (R : Nat → Nat → Int32) (g : Nat → Int64), rR n X Z W D Cs O I R → (∀ a, a < n → f a = some (so a)) → (∀ a, n ≤ a → a < 4 → f a = none) → zW K p l e zR s m args below meth c A Q (k9 + 16) (n9 + 512) (zFu K ax sa ao az ak tk tc am n f so sc X Z W D Cs F O Ft Ot Tc I R g) [(0, .ref b), (1, .ref ax), (2, .ref (am 0)), (3, .ref ao), (4, .int (nI ii))] [] 1428) : ∀ (n : Nat) (f : Nat → Option Nat) (so : Nat → Nat) (sc : Nat → Nat → Nat) (X : Nat → Int32) (Z : Nat → Nat → Int32) (W : Nat → Int32) (D : Nat → Nat → Int32) (Cs : Nat → Nat → Nat → Int32) (F : Nat → Int32) (O : Nat → Int32) (Ft : Nat → Int32) (Ot : Nat → Int32) (Tc : Nat → Nat → Int32) (I : Nat → Int32) (R : Nat → Nat → Int32) (g : Nat → Int64), rR n X Z W D Cs O I R → (∀ a, a < n → f a = some (so a)) → (∀ a, n ≤ a → a < 4 → f a = none) → zW K p l e zR s m args below meth c A Q k9 n9 (zFu K ax sa ao az ak tk tc am n f so sc X Z W D Cs F O Ft Ot Tc I R g) [(0, .ref b), (1, .ref ax), (2, .ref (am 0)), (3, .ref ao), (4, .int (nI ii))] [.int (nI 5)] 39 := by
  intro n f so sc X Z W D Cs F O Ft Ot Tc I R g hS hf1 hf2
  have hn4 := hS.1.2.1
  have h5 : ¬ (I 5) < 0 := by rw [hS.1.1]; exact nI_pos (by omega)
  have h6 : (I 5).toNatClampNeg ≤ 4 := by rw [hS.1.1, nI_clamp (by omega)]; exact hn4
  have hZ := hS.2.1.zw
  have hC := hS.2.2.2.1.1
  have h4 := hS.2.1.2.2.2
  have hW4 : (W 4) = 0 ∨ (W 4) = 1 := by rw [hS.2.1.2.2.1]; exact h4
  have h16 := hS.2.2.1.2.2.2.2.2.2.2.2.2.2.2
  have hO5 : (O 5) = 0 ∨ (O 5) = 1 := by rw [hS.2.2.1.2.2.2.2.2.2.2.2.2.2.1]; exact h16
  have hX2 := hS.2.2.1.1
  have hon := hS.1.2.2.2
  have hD3 : ∀ i, i < n → (D i 3) = 0 ∨ (D i 3) = 1 := fun i hi => by rw [(hS.1.2.2.1 i hi).2.2.1]; exact hon i
  have i01 : (0 : Int32) = 0 ∨ (0 : Int32) = 1 := Or.inl rfl
  have i11 : (1 : Int32) = 0 ∨ (1 : Int32) = 1 := Or.inr rfl
  obtain ⟨x1, hv1⟩ : ∃ x1, xs (nI ii + 1).toNatClampNeg = x1 := ⟨_, rfl⟩
  obtain ⟨x2, hv2⟩ : ∃ x2, xs (nI ii + 2).toNatClampNeg = x2 := ⟨_, rfl⟩
  obtain ⟨x3, hv3⟩ : ∃ x3, xs (nI ii + 3).toNatClampNeg = x3 := ⟨_, rfl⟩
  have site : (∃ i, i < n ∧ x1 = nI i) ∨ (∀ i, i < n → x1 ≠ nI i) := by
    by_cases h : ∃ i, i < n ∧ x1 = nI i
    · exact Or.inl h
    · exact Or.inr fun i hi q => h ⟨i, hi, q⟩
  have near : fX4_near n D x1 = none ∨ ∃ i, i < n ∧ fX4_near n D x1 = some i := z_nearLt n D x1
  have miss : (∀ i, i < n → x1 ≠ nI i) → x1 < 4 → ¬ x1 < 0 → f x1.toNatClampNeg = none := by
    intro hm q1 q2
    obtain ⟨j, hj, rfl⟩ := nI_of q2
    have hj4 : j < 4 := (nI_ltI (b := 4) hj (by decide)).mp q1
    rw [nI_clamp hj]
    exact hf2 j (Nat.le_of_not_lt fun q => hm j q rfl) hj4
  · refine z_tsI B 444 dL_law_39 (by decide) (by decide) rfl rfl ?_
    refine z_to (bc := [zXo ax (az 0) sa (ak 0) (tk 0) (tc 0) X, zZo K az Z W, zOu K ao g, zMo K am I R]) (br := [zSa K sa f, zSO n so sc D, zSC K n sc Cs, zCo K ak F O, zCo K tk Ft Ot, zCa K tc Tc]) [0, 1, 9, 8] [2, 3, 4, 5, 6, 7] (zsp rfl rfl rfl) ?_
    refine aL_truth l hl K ax az sa (ak 0) (tk 0) (tc 0) X Z W x1 ao g am I R hZ ([zSa K sa f, zSO n so sc D, zSC K n sc Cs, zCo K ak F O, zCo K tk Ft Ot, zCa K tc Tc] : zB).flatten (q_truth (x1 := x1) (g := g) hS).1 B hX hbl hbA (r_hi hL h4L (k := 1) (by decide)) hv1 (by omega) (by omega) ?_
    refine z_fro (bs := zFu K ax sa ao az ak tk tc am n f so sc X Z W D Cs F O Ft Ot Tc ((fX5_truth I R x1).2) R ((fL_truth X Z W x1 g).2)) (bc := [zXo ax (az 0) sa (ak 0) (tk 0) (tc 0) X, zZo K az Z W, zOu K ao ((fL_truth X Z W x1 g).2), zMo K am ((fX5_truth I R x1).2) R]) (br := [zSa K sa f, zSO n so sc D, zSC K n sc Cs, zCo K ak F O, zCo K tk Ft Ot, zCa K tc Tc]) [0, 1, 9, 8] [2, 3, 4, 5, 6, 7] (zsp rfl rfl rfl) ?_
    exact next n f so sc X Z W D Cs F O Ft Ot Tc ((fX5_truth I R x1).2) R ((fL_truth X Z W x1 g).2) (q_truth (x1 := x1) (g := g) hS).2 hf1 hf2
set_option maxHeartbeats 8000000 in
set_option maxRecDepth 100000 in
theorem law_op6 (l : Launch) (hl : l.stackTraces = false) {K : zK} {p : Program} {e : Env} {s : State} {m : MethodId} {below : List Frame} {meth : Method} {c : Code} {A : Nat → Prop} {Q : State → Prop} {ret9 : Option FieldType} {nm9 : String} {tb9 : List ExceptionTableEntry} {args : Array Value} {b L ii k9 n9 : Nat} {xs : Nat → Int32} (B : zF K p l s m args meth c A cL_law 7 RL nm9 wsL_law ret9 tb9) (hX : va_X b L xs s s.heap) (hbl : b < s.heap.size) (hbA : ¬ A b) (hL : L ≤ 2048) (h4L : ii + 4 ≤ L) (hk9 : k9 + 16 ≤ 601024) (hn9 : n9 + 512 ≤ 7293034) {ax sa ao : Nat} {az ak tk tc am : Nat → Nat}
    (next : ∀ (n : Nat) (f : Nat → Option Nat) (so : Nat → Nat) (sc : Nat → Nat → Nat) (X : Nat → Int32) (Z : Nat → Nat → Int32) (W : Nat → Int32) (D : Nat → Nat → Int32) (Cs : Nat → Nat → Nat → Int32) (F : Nat → Int32) (O : Nat → Int32) (Ft : Nat → Int32) (Ot : Nat → Int32) (Tc : Nat → Nat → Int32) (I : Nat → Int32) (R : Nat → Nat → Int32) (g : Nat → Int64), rR n X Z W D Cs O I R → (∀ a, a < n → f a = some (so a)) → (∀ a, n ≤ a → a < 4 → f a = none) → zW K p l e zR s m args below meth c A Q (k9 + 16) (n9 + 512) (zFu K ax sa ao az ak tk tc am n f so sc X Z W D Cs F O Ft Ot Tc I R g) [(0, .ref b), (1, .ref ax), (2, .ref (am 0)), (3, .ref ao), (4, .int (nI ii))] [] 1428) : ∀ (n : Nat) (f : Nat → Option Nat) (so : Nat → Nat) (sc : Nat → Nat → Nat) (X : Nat → Int32) (Z : Nat → Nat → Int32) (W : Nat → Int32) (D : Nat → Nat → Int32) (Cs : Nat → Nat → Nat → Int32) (F : Nat → Int32) (O : Nat → Int32) (Ft : Nat → Int32) (Ot : Nat → Int32) (Tc : Nat → Nat → Int32) (I : Nat → Int32) (R : Nat → Nat → Int32) (g : Nat → Int64), rR n X Z W D Cs O I R → (∀ a, a < n → f a = some (so a)) → (∀ a, n ≤ a → a < 4 → f a = none) → zW K p l e zR s m args below meth c A Q k9 n9 (zFu K ax sa ao az ak tk tc am n f so sc X Z W D Cs F O Ft Ot Tc I R g) [(0, .ref b), (1, .ref ax), (2, .ref (am 0)), (3, .ref ao), (4, .int (nI ii))] [.int (nI 6)] 39 := by
  intro n f so sc X Z W D Cs F O Ft Ot Tc I R g hS hf1 hf2
  have hn4 := hS.1.2.1
  have h5 : ¬ (I 5) < 0 := by rw [hS.1.1]; exact nI_pos (by omega)
  have h6 : (I 5).toNatClampNeg ≤ 4 := by rw [hS.1.1, nI_clamp (by omega)]; exact hn4
  have hZ := hS.2.1.zw
  have hC := hS.2.2.2.1.1
  have h4 := hS.2.1.2.2.2
  have hW4 : (W 4) = 0 ∨ (W 4) = 1 := by rw [hS.2.1.2.2.1]; exact h4
  have h16 := hS.2.2.1.2.2.2.2.2.2.2.2.2.2.2
  have hO5 : (O 5) = 0 ∨ (O 5) = 1 := by rw [hS.2.2.1.2.2.2.2.2.2.2.2.2.2.1]; exact h16
  have hX2 := hS.2.2.1.1
  have hon := hS.1.2.2.2
  have hD3 : ∀ i, i < n → (D i 3) = 0 ∨ (D i 3) = 1 := fun i hi => by rw [(hS.1.2.2.1 i hi).2.2.1]; exact hon i
  have i01 : (0 : Int32) = 0 ∨ (0 : Int32) = 1 := Or.inl rfl
  have i11 : (1 : Int32) = 0 ∨ (1 : Int32) = 1 := Or.inr rfl
  obtain ⟨x1, hv1⟩ : ∃ x1, xs (nI ii + 1).toNatClampNeg = x1 := ⟨_, rfl⟩
  obtain ⟨x2, hv2⟩ : ∃ x2, xs (nI ii + 2).toNatClampNeg = x2 := ⟨_, rfl⟩
  obtain ⟨x3, hv3⟩ : ∃ x3, xs (nI ii + 3).toNatClampNeg = x3 := ⟨_, rfl⟩
  have site : (∃ i, i < n ∧ x1 = nI i) ∨ (∀ i, i < n → x1 ≠ nI i) := by
    by_cases h : ∃ i, i < n ∧ x1 = nI i
    · exact Or.inl h
    · exact Or.inr fun i hi q => h ⟨i, hi, q⟩
  have near : fX4_near n D x1 = none ∨ ∃ i, i < n ∧ fX4_near n D x1 = some i := z_nearLt n D x1
  have miss : (∀ i, i < n → x1 ≠ nI i) → x1 < 4 → ¬ x1 < 0 → f x1.toNatClampNeg = none := by
    intro hm q1 q2
    obtain ⟨j, hj, rfl⟩ := nI_of q2
    have hj4 : j < 4 := (nI_ltI (b := 4) hj (by decide)).mp q1
    rw [nI_clamp hj]
    exact hf2 j (Nat.le_of_not_lt fun q => hm j q rfl) hj4
  · have hq := q_addSite (x1 := x1) (g := g) hS
    by_cases hc : (fX4_addSite X x1).1 = 0
    · rw [if_pos hc] at hq
      refine z_tsI B 500 dL_law_39 (by decide) (by decide) rfl rfl ?_
      refine z_to (bc := [zXo ax (az 0) sa (ak 0) (tk 0) (tc 0) X, zSa K sa f, zSO n so sc D, zSC K n sc Cs, zOu K ao g, zMo K am I R]) (br := [zZo K az Z W, zCo K ak F O, zCo K tk Ft Ot, zCa K tc Tc]) [0, 2, 3, 4, 9, 8] [1, 5, 6, 7] (zsp rfl rfl rfl) ?_
      refine aL_addSite_ok l hl K ax (az 0) sa (ak 0) (tk 0) (tc 0) X f n so sc D Cs x1 ao g am I R hX2 hn4 hc h5 h6 ([zZo K az Z W, zCo K ak F O, zCo K tk Ft Ot, zCa K tc Tc] : zB).flatten hq.1 B hX hbl hbA (r_hi hL h4L (k := 1) (by decide)) hv1 (by omega) (by omega) (fun u9 => ?_)
      refine z_fro (bs := zFu K ax sa ao az ak tk tc am (n + 1) (va_up f n (some u9.1)) (va_up so n u9.1) (va_up sc n u9.2) (fX4_addSite X x1).2.2 Z W (va_up D n (va_up (va_up (va_up (fun _ => 0) 0 (X 2)) 1 x1) 3 1)) (va_up Cs n zC0) F O Ft Ot Tc (fX5_addSite I R x1).2.1 (fX5_addSite I R x1).2.2 (fL_addSite X x1 g).2) (bc := [zXo ax (az 0) sa (ak 0) (tk 0) (tc 0) (fX4_addSite X x1).2.2, zSa K sa (va_up f n (some u9.1)), zSO (n + 1) (va_up so n u9.1) (va_up sc n u9.2) (va_up D n (va_up (va_up (va_up (fun _ => 0) 0 (X 2)) 1 x1) 3 1)), zSC K (n + 1) (va_up sc n u9.2) (va_up Cs n zC0), zOu K ao (fL_addSite X x1 g).2, zMo K am (fX5_addSite I R x1).2.1 (fX5_addSite I R x1).2.2]) (br := [zZo K az Z W, zCo K ak F O, zCo K tk Ft Ot, zCa K tc Tc]) [0, 2, 3, 4, 9, 8] [1, 5, 6, 7] (zsp rfl rfl rfl) ?_
      refine next (n + 1) (va_up f n (some u9.1)) (va_up so n u9.1) (va_up sc n u9.2) (fX4_addSite X x1).2.2 Z W (va_up D n (va_up (va_up (va_up (fun _ => 0) 0 (X 2)) 1 x1) 3 1)) (va_up Cs n zC0) F O Ft Ot Tc (fX5_addSite I R x1).2.1 (fX5_addSite I R x1).2.2 (fL_addSite X x1 g).2 hq.2.2 (fun a ha => ?_) (fun a ha h4 => ?_)
      · by_cases q : a = n
        · rw [q, va_up_self, va_up_self]
        · rw [va_up_ne _ _ q, va_up_ne _ _ q]; exact hf1 a (by omega)
      · rw [va_up_ne _ _ (by omega)]; exact hf2 a (by omega) h4
    · rw [if_neg hc] at hq
      refine z_tsI B 500 dL_law_39 (by decide) (by decide) rfl rfl ?_
      refine z_to (bc := [zXo ax (az 0) sa (ak 0) (tk 0) (tc 0) X, zSa K sa f, zSO n so sc D, zSC K n sc Cs, zOu K ao g, zMo K am I R]) (br := [zZo K az Z W, zCo K ak F O, zCo K tk Ft Ot, zCa K tc Tc]) [0, 2, 3, 4, 9, 8] [1, 5, 6, 7] (zsp rfl rfl rfl) ?_
      refine aL_addSite_no l hl K ax (az 0) sa (ak 0) (tk 0) (tc 0) X f n so sc D Cs x1 ao g am I R hX2 hn4 hc h5 h6 ([zZo K az Z W, zCo K ak F O, zCo K tk Ft Ot, zCa K tc Tc] : zB).flatten hq.1 B hX hbl hbA (r_hi hL h4L (k := 1) (by decide)) hv1 (by omega) (by omega) (fun u9 => ?_)
      refine z_fro (bs := zFu K ax sa ao az ak tk tc am n f so sc X Z W D Cs F O Ft Ot Tc (fX5_addSite I R x1).2.1 (fX5_addSite I R x1).2.2 (fL_addSite X x1 g).2) (bc := [zXo ax (az 0) sa (ak 0) (tk 0) (tc 0) X, zSa K sa f, zSO n so sc D, zSC K n sc Cs, zOu K ao (fL_addSite X x1 g).2, zMo K am (fX5_addSite I R x1).2.1 (fX5_addSite I R x1).2.2]) (br := [zZo K az Z W, zCo K ak F O, zCo K tk Ft Ot, zCa K tc Tc]) [0, 2, 3, 4, 9, 8] [1, 5, 6, 7] (zsp rfl rfl rfl) ?_
      exact next n f so sc X Z W D Cs F O Ft Ot Tc (fX5_addSite I R x1).2.1 (fX5_addSite I R x1).2.2 (fL_addSite X x1 g).2 hq.2 hf1 hf2
