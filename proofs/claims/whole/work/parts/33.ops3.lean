set_option maxHeartbeats 8000000 in
set_option maxRecDepth 100000 in
theorem law_op21 (l : Launch) (hl : l.stackTraces = false) {K : zK} {p : Program} {e : Env} {s : State} {m : MethodId} {below : List Frame} {meth : Method} {c : Code} {A : Nat → Prop} {Q : State → Prop} {ret9 : Option FieldType} {nm9 : String} {tb9 : List ExceptionTableEntry} {args : Array Value} {b L ii k9 n9 : Nat} {xs : Nat → Int32} (B : zF K p l s m args meth c A cL_law 7 RL nm9 wsL_law ret9 tb9) (hX : va_X b L xs s s.heap) (hbl : b < s.heap.size) (hbA : ¬ A b) (hL : L ≤ 2048) (h4L : ii + 4 ≤ L) (hk9 : k9 + 16 ≤ 601024) (hn9 : n9 + 512 ≤ 7293034) {ax sa ao : Nat} {az ak tk tc am : Nat → Nat}
    (next : ∀ (n : Nat) (f : Nat → Option Nat) (so : Nat → Nat) (sc : Nat → Nat → Nat) (X : Nat → Int32) (Z : Nat → Nat → Int32) (W : Nat → Int32) (D : Nat → Nat → Int32) (Cs : Nat → Nat → Nat → Int32) (F : Nat → Int32) (O : Nat → Int32) (Ft : Nat → Int32) (Ot : Nat → Int32) (Tc : Nat → Nat → Int32) (I : Nat → Int32) (R : Nat → Nat → Int32) (g : Nat → Int64), rR n X Z W D Cs O I R → (∀ a, a < n → f a = some (so a)) → (∀ a, n ≤ a → a < 4 → f a = none) → zW K p l e zR s m args below meth c A Q (k9 + 16) (n9 + 512) (zFu K ax sa ao az ak tk tc am n f so sc X Z W D Cs F O Ft Ot Tc I R g) [(0, .ref b), (1, .ref ax), (2, .ref (am 0)), (3, .ref ao), (4, .int (nI ii))] [] 1428) : ∀ (n : Nat) (f : Nat → Option Nat) (so : Nat → Nat) (sc : Nat → Nat → Nat) (X : Nat → Int32) (Z : Nat → Nat → Int32) (W : Nat → Int32) (D : Nat → Nat → Int32) (Cs : Nat → Nat → Nat → Int32) (F : Nat → Int32) (O : Nat → Int32) (Ft : Nat → Int32) (Ot : Nat → Int32) (Tc : Nat → Nat → Int32) (I : Nat → Int32) (R : Nat → Nat → Int32) (g : Nat → Int64), rR n X Z W D Cs O I R → (∀ a, a < n → f a = some (so a)) → (∀ a, n ≤ a → a < 4 → f a = none) → zW K p l e zR s m args below meth c A Q k9 n9 (zFu K ax sa ao az ak tk tc am n f so sc X Z W D Cs F O Ft Ot Tc I R g) [(0, .ref b), (1, .ref ax), (2, .ref (am 0)), (3, .ref ao), (4, .int (nI ii))] [.int (nI 21)] 39 := by
  intro n f so sc X Z W D Cs F O Ft Ot Tc I R g hS hf1 hf2
  have hn4 := hS.1.2.1
  have h5 : ¬ (I 5) < 0 := by rw [hS.1.1]; exact nI_pos (by omega)
  have h6 : (I 5).toNatClampNeg ≤ 4 := by rw [hS.1.1, nI_clamp (by omega)]; exact hn4
  have hZ := hS.2.1.zw
  have hC := hS.2.2.2.1.1
  have h4 := hS.2.1.2.2.2
  have hW4 : (W 4) = 0 ∨ (W 4) = 1 := by rw [hS.2.1.2.2.1]; exact h4
  have h16 := hS.2.2.1.2.2.2.2.2.2.2.2.2.2.2
  have hO5 : (O 5) = 0 ∨ (O 5) = 1 := by rw [hS.2.2.1.2.2.2.2.2.2.2.2.2.2.1]; exact h16
  have hX2 := hS.2.2.1.1
  have hon := hS.1.2.2.2
  have hD3 : ∀ i, i < n → (D i 3) = 0 ∨ (D i 3) = 1 := fun i hi => by rw [(hS.1.2.2.1 i hi).2.2.1]; exact hon i
  have i01 : (0 : Int32) = 0 ∨ (0 : Int32) = 1 := Or.inl rfl
  have i11 : (1 : Int32) = 0 ∨ (1 : Int32) = 1 := Or.inr rfl
  obtain ⟨x1, hv1⟩ : ∃ x1, xs (nI ii + 1).toNatClampNeg = x1 := ⟨_, rfl⟩
  obtain ⟨x2, hv2⟩ : ∃ x2, xs (nI ii + 2).toNatClampNeg = x2 := ⟨_, rfl⟩
  obtain ⟨x3, hv3⟩ : ∃ x3, xs (nI ii + 3).toNatClampNeg = x3 := ⟨_, rfl⟩
  have site : (∃ i, i < n ∧ x1 = nI i) ∨ (∀ i, i < n → x1 ≠ nI i) := by
    by_cases h : ∃ i, i < n ∧ x1 = nI i
    · exact Or.inl h
    · exact Or.inr fun i hi q => h ⟨i, hi, q⟩
  have near : fX4_near n D x1 = none ∨ ∃ i, i < n ∧ fX4_near n D x1 = some i := z_nearLt n D x1
  have miss : (∀ i, i < n → x1 ≠ nI i) → x1 < 4 → ¬ x1 < 0 → f x1.toNatClampNeg = none := by
    intro hm q1 q2
    obtain ⟨j, hj, rfl⟩ := nI_of q2
    have hj4 : j < 4 := (nI_ltI (b := 4) hj (by decide)).mp q1
    rw [nI_clamp hj]
    exact hf2 j (Nat.le_of_not_lt fun q => hm j q rfl) hj4
  · rcases site with ⟨i, hi, ei⟩ | hm
    · rw [ei] at hv1
      refine z_tsI B 1227 dL_law_39 (by decide) (by decide) rfl rfl ?_
      refine z_perm (bs' := zFi K ax sa ao az ak tk tc am n f so sc X Z W D Cs i (Cs i) F O Ft Ot Tc I R g) (zFi_of hi) ?_
      refine z_to (bc := [zXo ax (az 0) sa (ak 0) (tk 0) (tc 0) X, zSa K sa f, zSO n so sc D, zCa K (sc i) (Cs i), zOu K ao g, zMo K am I R]) (br := [zZo K az Z W, zCo K ak F O, zCo K tk Ft Ot, zCa K tc Tc, zSX K n sc Cs i]) [0, 2, 3, 4, 9, 8] [1, 5, 6, 7, 10] (zsp rfl rfl rfl) ?_
      refine aL_left_h l hl K ax (az 0) sa (ak 0) (tk 0) (tc 0) X f n so sc D i (Cs i) x2 ao g am I R (by omega) hi (z_fcl hf1 hi (by omega)) h5 h6 ([zZo K az Z W, zCo K ak F O, zCo K tk Ft Ot, zCa K tc Tc, zSX K n sc Cs i] : zB).flatten (q_left_h (x2 := x2) (g := g) hS hi).1 B hX hbl hbA (r_hi hL h4L (k := 1) (by decide)) hv1 (r_hi hL h4L (k := 2) (by decide)) hv2 (by omega) (by omega) ?_
      refine z_fro (bs := zFi K ax sa ao az ak tk tc am n f so sc X Z W D Cs i (Cs i) F O Ft Ot Tc ((fX5_left I R (nI i) x2).2) R ((fL_left_h X D i (Cs i) x2 g).2)) (bc := [zXo ax (az 0) sa (ak 0) (tk 0) (tc 0) X, zSa K sa f, zSO n so sc D, zCa K (sc i) (Cs i), zOu K ao ((fL_left_h X D i (Cs i) x2 g).2), zMo K am ((fX5_left I R (nI i) x2).2) R]) (br := [zZo K az Z W, zCo K ak F O, zCo K tk Ft Ot, zCa K tc Tc, zSX K n sc Cs i]) [0, 2, 3, 4, 9, 8] [1, 5, 6, 7, 10] (zsp rfl rfl rfl) ?_
      refine z_perm (bs' := zFu K ax sa ao az ak tk tc am n f so sc X Z W D Cs F O Ft Ot Tc ((fX5_left I R (nI i) x2).2) R ((fL_left_h X D i (Cs i) x2 g).2)) (zFi_of hi).symm ?_
      exact next n f so sc X Z W D Cs F O Ft Ot Tc ((fX5_left I R (nI i) x2).2) R ((fL_left_h X D i (Cs i) x2 g).2) (q_left_h (x2 := x2) (g := g) hS hi).2 hf1 hf2
    · have hfn := miss hm
      refine z_tsI B 1227 dL_law_39 (by decide) (by decide) rfl rfl ?_
      refine z_to (bc := [zXo ax (az 0) sa (ak 0) (tk 0) (tc 0) X, zSa K sa f, zOu K ao g, zMo K am I R]) (br := [zZo K az Z W, zSO n so sc D, zSC K n sc Cs, zCo K ak F O, zCo K tk Ft Ot, zCa K tc Tc]) [0, 2, 9, 8] [1, 3, 4, 5, 6, 7] (zsp rfl rfl rfl) ?_
      refine aL_left_m l hl K ax (az 0) sa (ak 0) (tk 0) (tc 0) X f x1 x2 ao g am I R hfn h5 h6 ([zZo K az Z W, zSO n so sc D, zSC K n sc Cs, zCo K ak F O, zCo K tk Ft Ot, zCa K tc Tc] : zB).flatten (q_left_m (x1 := x1) (x2 := x2) (g := g) hS hm).1 B hX hbl hbA (r_hi hL h4L (k := 1) (by decide)) hv1 (r_hi hL h4L (k := 2) (by decide)) hv2 (by omega) (by omega) ?_
      refine z_fro (bs := zFu K ax sa ao az ak tk tc am n f so sc X Z W D Cs F O Ft Ot Tc ((fX5_left I R x1 x2).2) R g) (bc := [zXo ax (az 0) sa (ak 0) (tk 0) (tc 0) X, zSa K sa f, zOu K ao g, zMo K am ((fX5_left I R x1 x2).2) R]) (br := [zZo K az Z W, zSO n so sc D, zSC K n sc Cs, zCo K ak F O, zCo K tk Ft Ot, zCa K tc Tc]) [0, 2, 9, 8] [1, 3, 4, 5, 6, 7] (zsp rfl rfl rfl) ?_
      exact next n f so sc X Z W D Cs F O Ft Ot Tc ((fX5_left I R x1 x2).2) R g (q_left_m (x1 := x1) (x2 := x2) (g := g) hS hm).2 hf1 hf2
set_option maxHeartbeats 8000000 in
set_option maxRecDepth 100000 in
theorem law_op22 (l : Launch) (hl : l.stackTraces = false) {K : zK} {p : Program} {e : Env} {s : State} {m : MethodId} {below : List Frame} {meth : Method} {c : Code} {A : Nat → Prop} {Q : State → Prop} {ret9 : Option FieldType} {nm9 : String} {tb9 : List ExceptionTableEntry} {args : Array Value} {b L ii k9 n9 : Nat} {xs : Nat → Int32} (B : zF K p l s m args meth c A cL_law 7 RL nm9 wsL_law ret9 tb9) (hX : va_X b L xs s s.heap) (hbl : b < s.heap.size) (hbA : ¬ A b) (hL : L ≤ 2048) (h4L : ii + 4 ≤ L) (hk9 : k9 + 16 ≤ 601024) (hn9 : n9 + 512 ≤ 7293034) {ax sa ao : Nat} {az ak tk tc am : Nat → Nat}
    (next : ∀ (n : Nat) (f : Nat → Option Nat) (so : Nat → Nat) (sc : Nat → Nat → Nat) (X : Nat → Int32) (Z : Nat → Nat → Int32) (W : Nat → Int32) (D : Nat → Nat → Int32) (Cs : Nat → Nat → Nat → Int32) (F : Nat → Int32) (O : Nat → Int32) (Ft : Nat → Int32) (Ot : Nat → Int32) (Tc : Nat → Nat → Int32) (I : Nat → Int32) (R : Nat → Nat → Int32) (g : Nat → Int64), rR n X Z W D Cs O I R → (∀ a, a < n → f a = some (so a)) → (∀ a, n ≤ a → a < 4 → f a = none) → zW K p l e zR s m args below meth c A Q (k9 + 16) (n9 + 512) (zFu K ax sa ao az ak tk tc am n f so sc X Z W D Cs F O Ft Ot Tc I R g) [(0, .ref b), (1, .ref ax), (2, .ref (am 0)), (3, .ref ao), (4, .int (nI ii))] [] 1428) : ∀ (n : Nat) (f : Nat → Option Nat) (so : Nat → Nat) (sc : Nat → Nat → Nat) (X : Nat → Int32) (Z : Nat → Nat → Int32) (W : Nat → Int32) (D : Nat → Nat → Int32) (Cs : Nat → Nat → Nat → Int32) (F : Nat → Int32) (O : Nat → Int32) (Ft : Nat → Int32) (Ot : Nat → Int32) (Tc : Nat → Nat → Int32) (I : Nat → Int32) (R : Nat → Nat → Int32) (g : Nat → Int64), rR n X Z W D Cs O I R → (∀ a, a < n → f a = some (so a)) → (∀ a, n ≤ a → a < 4 → f a = none) → zW K p l e zR s m args below meth c A Q k9 n9 (zFu K ax sa ao az ak tk tc am n f so sc X Z W D Cs F O Ft Ot Tc I R g) [(0, .ref b), (1, .ref ax), (2, .ref (am 0)), (3, .ref ao), (4, .int (nI ii))] [.int (nI 22)] 39 := by
  intro n f so sc X Z W D Cs F O Ft Ot Tc I R g hS hf1 hf2
  have hn4 := hS.1.2.1
  have h5 : ¬ (I 5) < 0 := by rw [hS.1.1]; exact nI_pos (by omega)
  have h6 : (I 5).toNatClampNeg ≤ 4 := by rw [hS.1.1, nI_clamp (by omega)]; exact hn4
  have hZ := hS.2.1.zw
  have hC := hS.2.2.2.1.1
  have h4 := hS.2.1.2.2.2
  have hW4 : (W 4) = 0 ∨ (W 4) = 1 := by rw [hS.2.1.2.2.1]; exact h4
  have h16 := hS.2.2.1.2.2.2.2.2.2.2.2.2.2.2
  have hO5 : (O 5) = 0 ∨ (O 5) = 1 := by rw [hS.2.2.1.2.2.2.2.2.2.2.2.2.2.1]; exact h16
  have hX2 := hS.2.2.1.1
  have hon := hS.1.2.2.2
  have hD3 : ∀ i, i < n → (D i 3) = 0 ∨ (D i 3) = 1 := fun i hi => by rw [(hS.1.2.2.1 i hi).2.2.1]; exact hon i
  have i01 : (0 : Int32) = 0 ∨ (0 : Int32) = 1 := Or.inl rfl
  have i11 : (1 : Int32) = 0 ∨ (1 : Int32) = 1 := Or.inr rfl
  obtain ⟨x1, hv1⟩ : ∃ x1, xs (nI ii + 1).toNatClampNeg = x1 := ⟨_, rfl⟩
  obtain ⟨x2, hv2⟩ : ∃ x2, xs (nI ii + 2).toNatClampNeg = x2 := ⟨_, rfl⟩
  obtain ⟨x3, hv3⟩ : ∃ x3, xs (nI ii + 3).toNatClampNeg = x3 := ⟨_, rfl⟩
  have site : (∃ i, i < n ∧ x1 = nI i) ∨ (∀ i, i < n → x1 ≠ nI i) := by
    by_cases h : ∃ i, i < n ∧ x1 = nI i
    · exact Or.inl h
    · exact Or.inr fun i hi q => h ⟨i, hi, q⟩
  have near : fX4_near n D x1 = none ∨ ∃ i, i < n ∧ fX4_near n D x1 = some i := z_nearLt n D x1
  have miss : (∀ i, i < n → x1 ≠ nI i) → x1 < 4 → ¬ x1 < 0 → f x1.toNatClampNeg = none := by
    intro hm q1 q2
    obtain ⟨j, hj, rfl⟩ := nI_of q2
    have hj4 : j < 4 := (nI_ltI (b := 4) hj (by decide)).mp q1
    rw [nI_clamp hj]
    exact hf2 j (Nat.le_of_not_lt fun q => hm j q rfl) hj4
  · rcases site with ⟨i, hi, ei⟩ | hm
    · rw [ei] at hv1
      refine z_tsI B 1295 dL_law_39 (by decide) (by decide) rfl rfl ?_
      refine z_perm (bs' := zFi K ax sa ao az ak tk tc am n f so sc X Z W D Cs i (Cs i) F O Ft Ot Tc I R g) (zFi_of hi) ?_
      refine z_to (bc := [zXo ax (az 0) sa (ak 0) (tk 0) (tc 0) X, zSa K sa f, zSO n so sc D, zCa K (sc i) (Cs i), zOu K ao g, zMo K am I R]) (br := [zZo K az Z W, zCo K ak F O, zCo K tk Ft Ot, zCa K tc Tc, zSX K n sc Cs i]) [0, 2, 3, 4, 9, 8] [1, 5, 6, 7, 10] (zsp rfl rfl rfl) ?_
      refine aL_hitsOf_h l hl K ax (az 0) sa (ak 0) (tk 0) (tc 0) X f n so sc D i (Cs i) x2 ao g am I R (by omega) hi (z_fcl hf1 hi (by omega)) h5 h6 ([zZo K az Z W, zCo K ak F O, zCo K tk Ft Ot, zCa K tc Tc, zSX K n sc Cs i] : zB).flatten (q_hitsOf_h (x2 := x2) (g := g) hS hi).1 B hX hbl hbA (r_hi hL h4L (k := 1) (by decide)) hv1 (r_hi hL h4L (k := 2) (by decide)) hv2 (by omega) (by omega) ?_
      refine z_fro (bs := zFi K ax sa ao az ak tk tc am n f so sc X Z W D Cs i (Cs i) F O Ft Ot Tc ((fX5_hitsOf I R (nI i) x2).2) R ((fL_hitsOf_h D i (Cs i) x2 g).2)) (bc := [zXo ax (az 0) sa (ak 0) (tk 0) (tc 0) X, zSa K sa f, zSO n so sc D, zCa K (sc i) (Cs i), zOu K ao ((fL_hitsOf_h D i (Cs i) x2 g).2), zMo K am ((fX5_hitsOf I R (nI i) x2).2) R]) (br := [zZo K az Z W, zCo K ak F O, zCo K tk Ft Ot, zCa K tc Tc, zSX K n sc Cs i]) [0, 2, 3, 4, 9, 8] [1, 5, 6, 7, 10] (zsp rfl rfl rfl) ?_
      refine z_perm (bs' := zFu K ax sa ao az ak tk tc am n f so sc X Z W D Cs F O Ft Ot Tc ((fX5_hitsOf I R (nI i) x2).2) R ((fL_hitsOf_h D i (Cs i) x2 g).2)) (zFi_of hi).symm ?_
      exact next n f so sc X Z W D Cs F O Ft Ot Tc ((fX5_hitsOf I R (nI i) x2).2) R ((fL_hitsOf_h D i (Cs i) x2 g).2) (q_hitsOf_h (x2 := x2) (g := g) hS hi).2 hf1 hf2
    · have hfn := miss hm
      refine z_tsI B 1295 dL_law_39 (by decide) (by decide) rfl rfl ?_
      refine z_to (bc := [zXo ax (az 0) sa (ak 0) (tk 0) (tc 0) X, zSa K sa f, zOu K ao g, zMo K am I R]) (br := [zZo K az Z W, zSO n so sc D, zSC K n sc Cs, zCo K ak F O, zCo K tk Ft Ot, zCa K tc Tc]) [0, 2, 9, 8] [1, 3, 4, 5, 6, 7] (zsp rfl rfl rfl) ?_
      refine aL_hitsOf_m l hl K ax (az 0) sa (ak 0) (tk 0) (tc 0) X f x1 x2 ao g am I R hfn h5 h6 ([zZo K az Z W, zSO n so sc D, zSC K n sc Cs, zCo K ak F O, zCo K tk Ft Ot, zCa K tc Tc] : zB).flatten (q_hitsOf_m (x1 := x1) (x2 := x2) (g := g) hS hm).1 B hX hbl hbA (r_hi hL h4L (k := 1) (by decide)) hv1 (r_hi hL h4L (k := 2) (by decide)) hv2 (by omega) (by omega) ?_
      refine z_fro (bs := zFu K ax sa ao az ak tk tc am n f so sc X Z W D Cs F O Ft Ot Tc ((fX5_hitsOf I R x1 x2).2) R g) (bc := [zXo ax (az 0) sa (ak 0) (tk 0) (tc 0) X, zSa K sa f, zOu K ao g, zMo K am ((fX5_hitsOf I R x1 x2).2) R]) (br := [zZo K az Z W, zSO n so sc D, zSC K n sc Cs, zCo K ak F O, zCo K tk Ft Ot, zCa K tc Tc]) [0, 2, 9, 8] [1, 3, 4, 5, 6, 7] (zsp rfl rfl rfl) ?_
      exact next n f so sc X Z W D Cs F O Ft Ot Tc ((fX5_hitsOf I R x1 x2).2) R g (q_hitsOf_m (x1 := x1) (x2 := x2) (g := g) hS hm).2 hf1 hf2
set_option maxHeartbeats 8000000 in
set_option maxRecDepth 100000 in
theorem law_op23 (l : Launch) (hl : l.stackTraces = false) {K : zK} {p : Program} {e : Env} {s : State} {m : MethodId} {below : List Frame} {meth : Method} {c : Code} {A : Nat → Prop} {Q : State → Prop} {ret9 : Option FieldType} {nm9 : String} {tb9 : List ExceptionTableEntry} {args : Array Value} {b L ii k9 n9 : Nat} {xs : Nat → Int32} (B : zF K p l s m args meth c A cL_law 7 RL nm9 wsL_law ret9 tb9) (hX : va_X b L xs s s.heap) (hbl : b < s.heap.size) (hbA : ¬ A b) (hL : L ≤ 2048) (h4L : ii + 4 ≤ L) (hk9 : k9 + 16 ≤ 601024) (hn9 : n9 + 512 ≤ 7293034) {ax sa ao : Nat} {az ak tk tc am : Nat → Nat}
    (next : ∀ (n : Nat) (f : Nat → Option Nat) (so : Nat → Nat) (sc : Nat → Nat → Nat) (X : Nat → Int32) (Z : Nat → Nat → Int32) (W : Nat → Int32) (D : Nat → Nat → Int32) (Cs : Nat → Nat → Nat → Int32) (F : Nat → Int32) (O : Nat → Int32) (Ft : Nat → Int32) (Ot : Nat → Int32) (Tc : Nat → Nat → Int32) (I : Nat → Int32) (R : Nat → Nat → Int32) (g : Nat → Int64), rR n X Z W D Cs O I R → (∀ a, a < n → f a = some (so a)) → (∀ a, n ≤ a → a < 4 → f a = none) → zW K p l e zR s m args below meth c A Q (k9 + 16) (n9 + 512) (zFu K ax sa ao az ak tk tc am n f so sc X Z W D Cs F O Ft Ot Tc I R g) [(0, .ref b), (1, .ref ax), (2, .ref (am 0)), (3, .ref ao), (4, .int (nI ii))] [] 1428) : ∀ (n : Nat) (f : Nat → Option Nat) (so : Nat → Nat) (sc : Nat → Nat → Nat) (X : Nat → Int32) (Z : Nat → Nat → Int32) (W : Nat → Int32) (D : Nat → Nat → Int32) (Cs : Nat → Nat → Nat → Int32) (F : Nat → Int32) (O : Nat → Int32) (Ft : Nat → Int32) (Ot : Nat → Int32) (Tc : Nat → Nat → Int32) (I : Nat → Int32) (R : Nat → Nat → Int32) (g : Nat → Int64), rR n X Z W D Cs O I R → (∀ a, a < n → f a = some (so a)) → (∀ a, n ≤ a → a < 4 → f a = none) → zW K p l e zR s m args below meth c A Q k9 n9 (zFu K ax sa ao az ak tk tc am n f so sc X Z W D Cs F O Ft Ot Tc I R g) [(0, .ref b), (1, .ref ax), (2, .ref (am 0)), (3, .ref ao), (4, .int (nI ii))] [.int (nI 23)] 39 := by
  intro n f so sc X Z W D Cs F O Ft Ot Tc I R g hS hf1 hf2
  have hn4 := hS.1.2.1
  have h5 : ¬ (I 5) < 0 := by rw [hS.1.1]; exact nI_pos (by omega)
  have h6 : (I 5).toNatClampNeg ≤ 4 := by rw [hS.1.1, nI_clamp (by omega)]; exact hn4
  have hZ := hS.2.1.zw
  have hC := hS.2.2.2.1.1
  have h4 := hS.2.1.2.2.2
  have hW4 : (W 4) = 0 ∨ (W 4) = 1 := by rw [hS.2.1.2.2.1]; exact h4
  have h16 := hS.2.2.1.2.2.2.2.2.2.2.2.2.2.2
  have hO5 : (O 5) = 0 ∨ (O 5) = 1 := by rw [hS.2.2.1.2.2.2.2.2.2.2.2.2.2.1]; exact h16
  have hX2 := hS.2.2.1.1
  have hon := hS.1.2.2.2
  have hD3 : ∀ i, i < n → (D i 3) = 0 ∨ (D i 3) = 1 := fun i hi => by rw [(hS.1.2.2.1 i hi).2.2.1]; exact hon i
  have i01 : (0 : Int32) = 0 ∨ (0 : Int32) = 1 := Or.inl rfl
  have i11 : (1 : Int32) = 0 ∨ (1 : Int32) = 1 := Or.inr rfl
  obtain ⟨x1, hv1⟩ : ∃ x1, xs (nI ii + 1).toNatClampNeg = x1 := ⟨_, rfl⟩
  obtain ⟨x2, hv2⟩ : ∃ x2, xs (nI ii + 2).toNatClampNeg = x2 := ⟨_, rfl⟩
  obtain ⟨x3, hv3⟩ : ∃ x3, xs (nI ii + 3).toNatClampNeg = x3 := ⟨_, rfl⟩
  have site : (∃ i, i < n ∧ x1 = nI i) ∨ (∀ i, i < n → x1 ≠ nI i) := by
    by_cases h : ∃ i, i < n ∧ x1 = nI i
    · exact Or.inl h
    · exact Or.inr fun i hi q => h ⟨i, hi, q⟩
  have near : fX4_near n D x1 = none ∨ ∃ i, i < n ∧ fX4_near n D x1 = some i := z_nearLt n D x1
  have miss : (∀ i, i < n → x1 ≠ nI i) → x1 < 4 → ¬ x1 < 0 → f x1.toNatClampNeg = none := by
    intro hm q1 q2
    obtain ⟨j, hj, rfl⟩ := nI_of q2
    have hj4 : j < 4 := (nI_ltI (b := 4) hj (by decide)).mp q1
    rw [nI_clamp hj]
    exact hf2 j (Nat.le_of_not_lt fun q => hm j q rfl) hj4
  · refine z_tsI B 1363 dL_law_39 (by decide) (by decide) rfl rfl ?_
    refine z_to (bc := [zXo ax (az 0) sa (ak 0) (tk 0) (tc 0) X, zMo K am I R]) (br := [zZo K az Z W, zSa K sa f, zSO n so sc D, zSC K n sc Cs, zCo K ak F O, zCo K tk Ft Ot, zCa K tc Tc, zOu K ao g]) [0, 8] [1, 2, 3, 4, 5, 6, 7, 9] (zsp rfl rfl rfl) ?_
    refine aL_queries l hl ao K ax (az 0) sa (ak 0) (tk 0) (tc 0) X am I R ([zZo K az Z W, zSa K sa f, zSO n so sc D, zSC K n sc Cs, zCo K ak F O, zCo K tk Ft Ot, zCa K tc Tc, zOu K ao g] : zB).flatten hS.2.2.1.2.2.2.1 B hX hbl hbA  (by omega) (by omega) ?_
    refine z_fro (bs := zFu K ax sa ao az ak tk tc am n f so sc X Z W D Cs F O Ft Ot Tc ((fX5_queries I R).2) R g) (bc := [zXo ax (az 0) sa (ak 0) (tk 0) (tc 0) X, zMo K am ((fX5_queries I R).2) R]) (br := [zZo K az Z W, zSa K sa f, zSO n so sc D, zSC K n sc Cs, zCo K ak F O, zCo K tk Ft Ot, zCa K tc Tc, zOu K ao g]) [0, 8] [1, 2, 3, 4, 5, 6, 7, 9] (zsp rfl rfl rfl) ?_
    exact next n f so sc X Z W D Cs F O Ft Ot Tc ((fX5_queries I R).2) R g (hS.t 0) hf1 hf2
set_option maxHeartbeats 8000000 in
set_option maxRecDepth 100000 in
theorem law_op24 (l : Launch) (hl : l.stackTraces = false) {K : zK} {p : Program} {e : Env} {s : State} {m : MethodId} {below : List Frame} {meth : Method} {c : Code} {A : Nat → Prop} {Q : State → Prop} {ret9 : Option FieldType} {nm9 : String} {tb9 : List ExceptionTableEntry} {args : Array Value} {b L ii k9 n9 : Nat} {xs : Nat → Int32} (B : zF K p l s m args meth c A cL_law 7 RL nm9 wsL_law ret9 tb9) (hX : va_X b L xs s s.heap) (hbl : b < s.heap.size) (hbA : ¬ A b) (hL : L ≤ 2048) (h4L : ii + 4 ≤ L) (hk9 : k9 + 16 ≤ 601024) (hn9 : n9 + 512 ≤ 7293034) {ax sa ao : Nat} {az ak tk tc am : Nat → Nat}
    (next : ∀ (n : Nat) (f : Nat → Option Nat) (so : Nat → Nat) (sc : Nat → Nat → Nat) (X : Nat → Int32) (Z : Nat → Nat → Int32) (W : Nat → Int32) (D : Nat → Nat → Int32) (Cs : Nat → Nat → Nat → Int32) (F : Nat → Int32) (O : Nat → Int32) (Ft : Nat → Int32) (Ot : Nat → Int32) (Tc : Nat → Nat → Int32) (I : Nat → Int32) (R : Nat → Nat → Int32) (g : Nat → Int64), rR n X Z W D Cs O I R → (∀ a, a < n → f a = some (so a)) → (∀ a, n ≤ a → a < 4 → f a = none) → zW K p l e zR s m args below meth c A Q (k9 + 16) (n9 + 512) (zFu K ax sa ao az ak tk tc am n f so sc X Z W D Cs F O Ft Ot Tc I R g) [(0, .ref b), (1, .ref ax), (2, .ref (am 0)), (3, .ref ao), (4, .int (nI ii))] [] 1428) : ∀ (n : Nat) (f : Nat → Option Nat) (so : Nat → Nat) (sc : Nat → Nat → Nat) (X : Nat → Int32) (Z : Nat → Nat → Int32) (W : Nat → Int32) (D : Nat → Nat → Int32) (Cs : Nat → Nat → Nat → Int32) (F : Nat → Int32) (O : Nat → Int32) (Ft : Nat → Int32) (Ot : Nat → Int32) (Tc : Nat → Nat → Int32) (I : Nat → Int32) (R : Nat → Nat → Int32) (g : Nat → Int64), rR n X Z W D Cs O I R → (∀ a, a < n → f a = some (so a)) → (∀ a, n ≤ a → a < 4 → f a = none) → zW K p l e zR s m args below meth c A Q k9 n9 (zFu K ax sa ao az ak tk tc am n f so sc X Z W D Cs F O Ft Ot Tc I R g) [(0, .ref b), (1, .ref ax), (2, .ref (am 0)), (3, .ref ao), (4, .int (nI ii))] [.int (nI 24)] 39 := by
  intro n f so sc X Z W D Cs F O Ft Ot Tc I R g hS hf1 hf2
  have hn4 := hS.1.2.1
  have h5 : ¬ (I 5) < 0 := by rw [hS.1.1]; exact nI_pos (by omega)
  have h6 : (I 5).toNatClampNeg ≤ 4 := by rw [hS.1.1, nI_clamp (by omega)]; exact hn4
  have hZ := hS.2.1.zw
  have hC := hS.2.2.2.1.1
  have h4 := hS.2.1.2.2.2
  have hW4 : (W 4) = 0 ∨ (W 4) = 1 := by rw [hS.2.1.2.2.1]; exact h4
  have h16 := hS.2.2.1.2.2.2.2.2.2.2.2.2.2.2
  have hO5 : (O 5) = 0 ∨ (O 5) = 1 := by rw [hS.2.2.1.2.2.2.2.2.2.2.2.2.2.1]; exact h16
  have hX2 := hS.2.2.1.1
  have hon := hS.1.2.2.2
  have hD3 : ∀ i, i < n → (D i 3) = 0 ∨ (D i 3) = 1 := fun i hi => by rw [(hS.1.2.2.1 i hi).2.2.1]; exact hon i
  have i01 : (0 : Int32) = 0 ∨ (0 : Int32) = 1 := Or.inl rfl
  have i11 : (1 : Int32) = 0 ∨ (1 : Int32) = 1 := Or.inr rfl
  obtain ⟨x1, hv1⟩ : ∃ x1, xs (nI ii + 1).toNatClampNeg = x1 := ⟨_, rfl⟩
  obtain ⟨x2, hv2⟩ : ∃ x2, xs (nI ii + 2).toNatClampNeg = x2 := ⟨_, rfl⟩
  obtain ⟨x3, hv3⟩ : ∃ x3, xs (nI ii + 3).toNatClampNeg = x3 := ⟨_, rfl⟩
  have site : (∃ i, i < n ∧ x1 = nI i) ∨ (∀ i, i < n → x1 ≠ nI i) := by
    by_cases h : ∃ i, i < n ∧ x1 = nI i
    · exact Or.inl h
    · exact Or.inr fun i hi q => h ⟨i, hi, q⟩
  have near : fX4_near n D x1 = none ∨ ∃ i, i < n ∧ fX4_near n D x1 = some i := z_nearLt n D x1
  have miss : (∀ i, i < n → x1 ≠ nI i) → x1 < 4 → ¬ x1 < 0 → f x1.toNatClampNeg = none := by
    intro hm q1 q2
    obtain ⟨j, hj, rfl⟩ := nI_of q2
    have hj4 : j < 4 := (nI_ltI (b := 4) hj (by decide)).mp q1
    rw [nI_clamp hj]
    exact hf2 j (Nat.le_of_not_lt fun q => hm j q rfl) hj4
  · refine z_tsI B 1376 dL_law_39 (by decide) (by decide) rfl rfl ?_
    refine z_to (bc := [zXo ax (az 0) sa (ak 0) (tk 0) (tc 0) X, zMo K am I R]) (br := [zZo K az Z W, zSa K sa f, zSO n so sc D, zSC K n sc Cs, zCo K ak F O, zCo K tk Ft Ot, zCa K tc Tc, zOu K ao g]) [0, 8] [1, 2, 3, 4, 5, 6, 7, 9] (zsp rfl rfl rfl) ?_
    refine aL_fetches l hl ao K ax (az 0) sa (ak 0) (tk 0) (tc 0) X am I R ([zZo K az Z W, zSa K sa f, zSO n so sc D, zSC K n sc Cs, zCo K ak F O, zCo K tk Ft Ot, zCa K tc Tc, zOu K ao g] : zB).flatten hS.2.2.1.2.2.2.2.1 B hX hbl hbA  (by omega) (by omega) ?_
    refine z_fro (bs := zFu K ax sa ao az ak tk tc am n f so sc X Z W D Cs F O Ft Ot Tc ((fX5_fetches I R).2) R g) (bc := [zXo ax (az 0) sa (ak 0) (tk 0) (tc 0) X, zMo K am ((fX5_fetches I R).2) R]) (br := [zZo K az Z W, zSa K sa f, zSO n so sc D, zSC K n sc Cs, zCo K ak F O, zCo K tk Ft Ot, zCa K tc Tc, zOu K ao g]) [0, 8] [1, 2, 3, 4, 5, 6, 7, 9] (zsp rfl rfl rfl) ?_
    exact next n f so sc X Z W D Cs F O Ft Ot Tc ((fX5_fetches I R).2) R g (hS.t 0) hf1 hf2
set_option maxHeartbeats 8000000 in
set_option maxRecDepth 100000 in
theorem law_op25 (l : Launch) (hl : l.stackTraces = false) {K : zK} {p : Program} {e : Env} {s : State} {m : MethodId} {below : List Frame} {meth : Method} {c : Code} {A : Nat → Prop} {Q : State → Prop} {ret9 : Option FieldType} {nm9 : String} {tb9 : List ExceptionTableEntry} {args : Array Value} {b L ii k9 n9 : Nat} {xs : Nat → Int32} (B : zF K p l s m args meth c A cL_law 7 RL nm9 wsL_law ret9 tb9) (hX : va_X b L xs s s.heap) (hbl : b < s.heap.size) (hbA : ¬ A b) (hL : L ≤ 2048) (h4L : ii + 4 ≤ L) (hk9 : k9 + 16 ≤ 601024) (hn9 : n9 + 512 ≤ 7293034) {ax sa ao : Nat} {az ak tk tc am : Nat → Nat}
    (next : ∀ (n : Nat) (f : Nat → Option Nat) (so : Nat → Nat) (sc : Nat → Nat → Nat) (X : Nat → Int32) (Z : Nat → Nat → Int32) (W : Nat → Int32) (D : Nat → Nat → Int32) (Cs : Nat → Nat → Nat → Int32) (F : Nat → Int32) (O : Nat → Int32) (Ft : Nat → Int32) (Ot : Nat → Int32) (Tc : Nat → Nat → Int32) (I : Nat → Int32) (R : Nat → Nat → Int32) (g : Nat → Int64), rR n X Z W D Cs O I R → (∀ a, a < n → f a = some (so a)) → (∀ a, n ≤ a → a < 4 → f a = none) → zW K p l e zR s m args below meth c A Q (k9 + 16) (n9 + 512) (zFu K ax sa ao az ak tk tc am n f so sc X Z W D Cs F O Ft Ot Tc I R g) [(0, .ref b), (1, .ref ax), (2, .ref (am 0)), (3, .ref ao), (4, .int (nI ii))] [] 1428) : ∀ (n : Nat) (f : Nat → Option Nat) (so : Nat → Nat) (sc : Nat → Nat → Nat) (X : Nat → Int32) (Z : Nat → Nat → Int32) (W : Nat → Int32) (D : Nat → Nat → Int32) (Cs : Nat → Nat → Nat → Int32) (F : Nat → Int32) (O : Nat → Int32) (Ft : Nat → Int32) (Ot : Nat → Int32) (Tc : Nat → Nat → Int32) (I : Nat → Int32) (R : Nat → Nat → Int32) (g : Nat → Int64), rR n X Z W D Cs O I R → (∀ a, a < n → f a = some (so a)) → (∀ a, n ≤ a → a < 4 → f a = none) → zW K p l e zR s m args below meth c A Q k9 n9 (zFu K ax sa ao az ak tk tc am n f so sc X Z W D Cs F O Ft Ot Tc I R g) [(0, .ref b), (1, .ref ax), (2, .ref (am 0)), (3, .ref ao), (4, .int (nI ii))] [.int (nI 25)] 39 := by
  intro n f so sc X Z W D Cs F O Ft Ot Tc I R g hS hf1 hf2
  have hn4 := hS.1.2.1
  have h5 : ¬ (I 5) < 0 := by rw [hS.1.1]; exact nI_pos (by omega)
  have h6 : (I 5).toNatClampNeg ≤ 4 := by rw [hS.1.1, nI_clamp (by omega)]; exact hn4
  have hZ := hS.2.1.zw
  have hC := hS.2.2.2.1.1
  have h4 := hS.2.1.2.2.2
  have hW4 : (W 4) = 0 ∨ (W 4) = 1 := by rw [hS.2.1.2.2.1]; exact h4
  have h16 := hS.2.2.1.2.2.2.2.2.2.2.2.2.2.2
  have hO5 : (O 5) = 0 ∨ (O 5) = 1 := by rw [hS.2.2.1.2.2.2.2.2.2.2.2.2.2.1]; exact h16
  have hX2 := hS.2.2.1.1
  have hon := hS.1.2.2.2
  have hD3 : ∀ i, i < n → (D i 3) = 0 ∨ (D i 3) = 1 := fun i hi => by rw [(hS.1.2.2.1 i hi).2.2.1]; exact hon i
  have i01 : (0 : Int32) = 0 ∨ (0 : Int32) = 1 := Or.inl rfl
  have i11 : (1 : Int32) = 0 ∨ (1 : Int32) = 1 := Or.inr rfl
  obtain ⟨x1, hv1⟩ : ∃ x1, xs (nI ii + 1).toNatClampNeg = x1 := ⟨_, rfl⟩
  obtain ⟨x2, hv2⟩ : ∃ x2, xs (nI ii + 2).toNatClampNeg = x2 := ⟨_, rfl⟩
  obtain ⟨x3, hv3⟩ : ∃ x3, xs (nI ii + 3).toNatClampNeg = x3 := ⟨_, rfl⟩
  have site : (∃ i, i < n ∧ x1 = nI i) ∨ (∀ i, i < n → x1 ≠ nI i) := by
    by_cases h : ∃ i, i < n ∧ x1 = nI i
    · exact Or.inl h
    · exact Or.inr fun i hi q => h ⟨i, hi, q⟩
  have near : fX4_near n D x1 = none ∨ ∃ i, i < n ∧ fX4_near n D x1 = some i := z_nearLt n D x1
  have miss : (∀ i, i < n → x1 ≠ nI i) → x1 < 4 → ¬ x1 < 0 → f x1.toNatClampNeg = none := by
    intro hm q1 q2
    obtain ⟨j, hj, rfl⟩ := nI_of q2
    have hj4 : j < 4 := (nI_ltI (b := 4) hj (by decide)).mp q1
    rw [nI_clamp hj]
    exact hf2 j (Nat.le_of_not_lt fun q => hm j q rfl) hj4
  · refine z_tsI B 1389 dL_law_39 (by decide) (by decide) rfl rfl ?_
    refine z_to (bc := [zXo ax (az 0) sa (ak 0) (tk 0) (tc 0) X, zMo K am I R]) (br := [zZo K az Z W, zSa K sa f, zSO n so sc D, zSC K n sc Cs, zCo K ak F O, zCo K tk Ft Ot, zCa K tc Tc, zOu K ao g]) [0, 8] [1, 2, 3, 4, 5, 6, 7, 9] (zsp rfl rfl rfl) ?_
    refine aL_prefetches l hl ao K ax (az 0) sa (ak 0) (tk 0) (tc 0) X am I R ([zZo K az Z W, zSa K sa f, zSO n so sc D, zSC K n sc Cs, zCo K ak F O, zCo K tk Ft Ot, zCa K tc Tc, zOu K ao g] : zB).flatten hS.2.2.1.2.2.2.2.2.1 B hX hbl hbA  (by omega) (by omega) ?_
    refine z_fro (bs := zFu K ax sa ao az ak tk tc am n f so sc X Z W D Cs F O Ft Ot Tc ((fX5_prefetches I R).2) R g) (bc := [zXo ax (az 0) sa (ak 0) (tk 0) (tc 0) X, zMo K am ((fX5_prefetches I R).2) R]) (br := [zZo K az Z W, zSa K sa f, zSO n so sc D, zSC K n sc Cs, zCo K ak F O, zCo K tk Ft Ot, zCa K tc Tc, zOu K ao g]) [0, 8] [1, 2, 3, 4, 5, 6, 7, 9] (zsp rfl rfl rfl) ?_
    exact next n f so sc X Z W D Cs F O Ft Ot Tc ((fX5_prefetches I R).2) R g (hS.t 0) hf1 hf2
set_option maxHeartbeats 8000000 in
set_option maxRecDepth 100000 in
theorem law_op26 (l : Launch) (hl : l.stackTraces = false) {K : zK} {p : Program} {e : Env} {s : State} {m : MethodId} {below : List Frame} {meth : Method} {c : Code} {A : Nat → Prop} {Q : State → Prop} {ret9 : Option FieldType} {nm9 : String} {tb9 : List ExceptionTableEntry} {args : Array Value} {b L ii k9 n9 : Nat} {xs : Nat → Int32} (B : zF K p l s m args meth c A cL_law 7 RL nm9 wsL_law ret9 tb9) (hX : va_X b L xs s s.heap) (hbl : b < s.heap.size) (hbA : ¬ A b) (hL : L ≤ 2048) (h4L : ii + 4 ≤ L) (hk9 : k9 + 16 ≤ 601024) (hn9 : n9 + 512 ≤ 7293034) {ax sa ao : Nat} {az ak tk tc am : Nat → Nat}
    (next : ∀ (n : Nat) (f : Nat → Option Nat) (so : Nat → Nat) (sc : Nat → Nat → Nat) (X : Nat → Int32) (Z : Nat → Nat → Int32) (W : Nat → Int32) (D : Nat → Nat → Int32) (Cs : Nat → Nat → Nat → Int32) (F : Nat → Int32) (O : Nat → Int32) (Ft : Nat → Int32) (Ot : Nat → Int32) (Tc : Nat → Nat → Int32) (I : Nat → Int32) (R : Nat → Nat → Int32) (g : Nat → Int64), rR n X Z W D Cs O I R → (∀ a, a < n → f a = some (so a)) → (∀ a, n ≤ a → a < 4 → f a = none) → zW K p l e zR s m args below meth c A Q (k9 + 16) (n9 + 512) (zFu K ax sa ao az ak tk tc am n f so sc X Z W D Cs F O Ft Ot Tc I R g) [(0, .ref b), (1, .ref ax), (2, .ref (am 0)), (3, .ref ao), (4, .int (nI ii))] [] 1428) : ∀ (n : Nat) (f : Nat → Option Nat) (so : Nat → Nat) (sc : Nat → Nat → Nat) (X : Nat → Int32) (Z : Nat → Nat → Int32) (W : Nat → Int32) (D : Nat → Nat → Int32) (Cs : Nat → Nat → Nat → Int32) (F : Nat → Int32) (O : Nat → Int32) (Ft : Nat → Int32) (Ot : Nat → Int32) (Tc : Nat → Nat → Int32) (I : Nat → Int32) (R : Nat → Nat → Int32) (g : Nat → Int64), rR n X Z W D Cs O I R → (∀ a, a < n → f a = some (so a)) → (∀ a, n ≤ a → a < 4 → f a = none) → zW K p l e zR s m args below meth c A Q k9 n9 (zFu K ax sa ao az ak tk tc am n f so sc X Z W D Cs F O Ft Ot Tc I R g) [(0, .ref b), (1, .ref ax), (2, .ref (am 0)), (3, .ref ao), (4, .int (nI ii))] [.int (nI 26)] 39 := by
  intro n f so sc X Z W D Cs F O Ft Ot Tc I R g hS hf1 hf2
  have hn4 := hS.1.2.1
  have h5 : ¬ (I 5) < 0 := by rw [hS.1.1]; exact nI_pos (by omega)
  have h6 : (I 5).toNatClampNeg ≤ 4 := by rw [hS.1.1, nI_clamp (by omega)]; exact hn4
  have hZ := hS.2.1.zw
  have hC := hS.2.2.2.1.1
  have h4 := hS.2.1.2.2.2
  have hW4 : (W 4) = 0 ∨ (W 4) = 1 := by rw [hS.2.1.2.2.1]; exact h4
  have h16 := hS.2.2.1.2.2.2.2.2.2.2.2.2.2.2
  have hO5 : (O 5) = 0 ∨ (O 5) = 1 := by rw [hS.2.2.1.2.2.2.2.2.2.2.2.2.2.1]; exact h16
  have hX2 := hS.2.2.1.1
  have hon := hS.1.2.2.2
  have hD3 : ∀ i, i < n → (D i 3) = 0 ∨ (D i 3) = 1 := fun i hi => by rw [(hS.1.2.2.1 i hi).2.2.1]; exact hon i
  have i01 : (0 : Int32) = 0 ∨ (0 : Int32) = 1 := Or.inl rfl
  have i11 : (1 : Int32) = 0 ∨ (1 : Int32) = 1 := Or.inr rfl
  obtain ⟨x1, hv1⟩ : ∃ x1, xs (nI ii + 1).toNatClampNeg = x1 := ⟨_, rfl⟩
  obtain ⟨x2, hv2⟩ : ∃ x2, xs (nI ii + 2).toNatClampNeg = x2 := ⟨_, rfl⟩
  obtain ⟨x3, hv3⟩ : ∃ x3, xs (nI ii + 3).toNatClampNeg = x3 := ⟨_, rfl⟩
  have site : (∃ i, i < n ∧ x1 = nI i) ∨ (∀ i, i < n → x1 ≠ nI i) := by
    by_cases h : ∃ i, i < n ∧ x1 = nI i
    · exact Or.inl h
    · exact Or.inr fun i hi q => h ⟨i, hi, q⟩
  have near : fX4_near n D x1 = none ∨ ∃ i, i < n ∧ fX4_near n D x1 = some i := z_nearLt n D x1
  have miss : (∀ i, i < n → x1 ≠ nI i) → x1 < 4 → ¬ x1 < 0 → f x1.toNatClampNeg = none := by
    intro hm q1 q2
    obtain ⟨j, hj, rfl⟩ := nI_of q2
    have hj4 : j < 4 := (nI_ltI (b := 4) hj (by decide)).mp q1
    rw [nI_clamp hj]
    exact hf2 j (Nat.le_of_not_lt fun q => hm j q rfl) hj4
  · refine z_tsI B 1402 dL_law_39 (by decide) (by decide) rfl rfl ?_
    refine z_to (bc := [zXo ax (az 0) sa (ak 0) (tk 0) (tc 0) X, zMo K am I R]) (br := [zZo K az Z W, zSa K sa f, zSO n so sc D, zSC K n sc Cs, zCo K ak F O, zCo K tk Ft Ot, zCa K tc Tc, zOu K ao g]) [0, 8] [1, 2, 3, 4, 5, 6, 7, 9] (zsp rfl rfl rfl) ?_
    refine aL_staleAnswers l hl ao K ax (az 0) sa (ak 0) (tk 0) (tc 0) X am I R ([zZo K az Z W, zSa K sa f, zSO n so sc D, zSC K n sc Cs, zCo K ak F O, zCo K tk Ft Ot, zCa K tc Tc, zOu K ao g] : zB).flatten hS.2.2.1.2.2.2.2.2.2.1 B hX hbl hbA  (by omega) (by omega) ?_
    refine z_fro (bs := zFu K ax sa ao az ak tk tc am n f so sc X Z W D Cs F O Ft Ot Tc ((fX5_staleAnswers I R).2) R g) (bc := [zXo ax (az 0) sa (ak 0) (tk 0) (tc 0) X, zMo K am ((fX5_staleAnswers I R).2) R]) (br := [zZo K az Z W, zSa K sa f, zSO n so sc D, zSC K n sc Cs, zCo K ak F O, zCo K tk Ft Ot, zCa K tc Tc, zOu K ao g]) [0, 8] [1, 2, 3, 4, 5, 6, 7, 9] (zsp rfl rfl rfl) ?_
    exact next n f so sc X Z W D Cs F O Ft Ot Tc ((fX5_staleAnswers I R).2) R g (hS.t 0) hf1 hf2
set_option maxHeartbeats 8000000 in
set_option maxRecDepth 100000 in
theorem law_op27 (l : Launch) (hl : l.stackTraces = false) {K : zK} {p : Program} {e : Env} {s : State} {m : MethodId} {below : List Frame} {meth : Method} {c : Code} {A : Nat → Prop} {Q : State → Prop} {ret9 : Option FieldType} {nm9 : String} {tb9 : List ExceptionTableEntry} {args : Array Value} {b L ii k9 n9 : Nat} {xs : Nat → Int32} (B : zF K p l s m args meth c A cL_law 7 RL nm9 wsL_law ret9 tb9) (hX : va_X b L xs s s.heap) (hbl : b < s.heap.size) (hbA : ¬ A b) (hL : L ≤ 2048) (h4L : ii + 4 ≤ L) (hk9 : k9 + 16 ≤ 601024) (hn9 : n9 + 512 ≤ 7293034) {ax sa ao : Nat} {az ak tk tc am : Nat → Nat}
    (next : ∀ (n : Nat) (f : Nat → Option Nat) (so : Nat → Nat) (sc : Nat → Nat → Nat) (X : Nat → Int32) (Z : Nat → Nat → Int32) (W : Nat → Int32) (D : Nat → Nat → Int32) (Cs : Nat → Nat → Nat → Int32) (F : Nat → Int32) (O : Nat → Int32) (Ft : Nat → Int32) (Ot : Nat → Int32) (Tc : Nat → Nat → Int32) (I : Nat → Int32) (R : Nat → Nat → Int32) (g : Nat → Int64), rR n X Z W D Cs O I R → (∀ a, a < n → f a = some (so a)) → (∀ a, n ≤ a → a < 4 → f a = none) → zW K p l e zR s m args below meth c A Q (k9 + 16) (n9 + 512) (zFu K ax sa ao az ak tk tc am n f so sc X Z W D Cs F O Ft Ot Tc I R g) [(0, .ref b), (1, .ref ax), (2, .ref (am 0)), (3, .ref ao), (4, .int (nI ii))] [] 1428) : ∀ (n : Nat) (f : Nat → Option Nat) (so : Nat → Nat) (sc : Nat → Nat → Nat) (X : Nat → Int32) (Z : Nat → Nat → Int32) (W : Nat → Int32) (D : Nat → Nat → Int32) (Cs : Nat → Nat → Nat → Int32) (F : Nat → Int32) (O : Nat → Int32) (Ft : Nat → Int32) (Ot : Nat → Int32) (Tc : Nat → Nat → Int32) (I : Nat → Int32) (R : Nat → Nat → Int32) (g : Nat → Int64), rR n X Z W D Cs O I R → (∀ a, a < n → f a = some (so a)) → (∀ a, n ≤ a → a < 4 → f a = none) → zW K p l e zR s m args below meth c A Q k9 n9 (zFu K ax sa ao az ak tk tc am n f so sc X Z W D Cs F O Ft Ot Tc I R g) [(0, .ref b), (1, .ref ax), (2, .ref (am 0)), (3, .ref ao), (4, .int (nI ii))] [.int (nI 27)] 39 := by
  intro n f so sc X Z W D Cs F O Ft Ot Tc I R g hS hf1 hf2
  have hn4 := hS.1.2.1
  have h5 : ¬ (I 5) < 0 := by rw [hS.1.1]; exact nI_pos (by omega)
  have h6 : (I 5).toNatClampNeg ≤ 4 := by rw [hS.1.1, nI_clamp (by omega)]; exact hn4
  have hZ := hS.2.1.zw
  have hC := hS.2.2.2.1.1
  have h4 := hS.2.1.2.2.2
  have hW4 : (W 4) = 0 ∨ (W 4) = 1 := by rw [hS.2.1.2.2.1]; exact h4
  have h16 := hS.2.2.1.2.2.2.2.2.2.2.2.2.2.2
  have hO5 : (O 5) = 0 ∨ (O 5) = 1 := by rw [hS.2.2.1.2.2.2.2.2.2.2.2.2.2.1]; exact h16
  have hX2 := hS.2.2.1.1
  have hon := hS.1.2.2.2
  have hD3 : ∀ i, i < n → (D i 3) = 0 ∨ (D i 3) = 1 := fun i hi => by rw [(hS.1.2.2.1 i hi).2.2.1]; exact hon i
  have i01 : (0 : Int32) = 0 ∨ (0 : Int32) = 1 := Or.inl rfl
  have i11 : (1 : Int32) = 0 ∨ (1 : Int32) = 1 := Or.inr rfl
  obtain ⟨x1, hv1⟩ : ∃ x1, xs (nI ii + 1).toNatClampNeg = x1 := ⟨_, rfl⟩
  obtain ⟨x2, hv2⟩ : ∃ x2, xs (nI ii + 2).toNatClampNeg = x2 := ⟨_, rfl⟩
  obtain ⟨x3, hv3⟩ : ∃ x3, xs (nI ii + 3).toNatClampNeg = x3 := ⟨_, rfl⟩
  have site : (∃ i, i < n ∧ x1 = nI i) ∨ (∀ i, i < n → x1 ≠ nI i) := by
    by_cases h : ∃ i, i < n ∧ x1 = nI i
    · exact Or.inl h
    · exact Or.inr fun i hi q => h ⟨i, hi, q⟩
  have near : fX4_near n D x1 = none ∨ ∃ i, i < n ∧ fX4_near n D x1 = some i := z_nearLt n D x1
  have miss : (∀ i, i < n → x1 ≠ nI i) → x1 < 4 → ¬ x1 < 0 → f x1.toNatClampNeg = none := by
    intro hm q1 q2
    obtain ⟨j, hj, rfl⟩ := nI_of q2
    have hj4 : j < 4 := (nI_ltI (b := 4) hj (by decide)).mp q1
    rw [nI_clamp hj]
    exact hf2 j (Nat.le_of_not_lt fun q => hm j q rfl) hj4
  · refine z_tsI B 1415 dL_law_39 (by decide) (by decide) rfl rfl ?_
    refine z_to (bc := [zXo ax (az 0) sa (ak 0) (tk 0) (tc 0) X, zMo K am I R]) (br := [zZo K az Z W, zSa K sa f, zSO n so sc D, zSC K n sc Cs, zCo K ak F O, zCo K tk Ft Ot, zCa K tc Tc, zOu K ao g]) [0, 8] [1, 2, 3, 4, 5, 6, 7, 9] (zsp rfl rfl rfl) ?_
    refine aL_failures l hl ao K ax (az 0) sa (ak 0) (tk 0) (tc 0) X am I R ([zZo K az Z W, zSa K sa f, zSO n so sc D, zSC K n sc Cs, zCo K ak F O, zCo K tk Ft Ot, zCa K tc Tc, zOu K ao g] : zB).flatten hS.2.2.1.2.2.2.2.2.2.2.1 B hX hbl hbA  (by omega) (by omega) ?_
    refine z_fro (bs := zFu K ax sa ao az ak tk tc am n f so sc X Z W D Cs F O Ft Ot Tc ((fX5_failures I R).2) R g) (bc := [zXo ax (az 0) sa (ak 0) (tk 0) (tc 0) X, zMo K am ((fX5_failures I R).2) R]) (br := [zZo K az Z W, zSa K sa f, zSO n so sc D, zSC K n sc Cs, zCo K ak F O, zCo K tk Ft Ot, zCa K tc Tc, zOu K ao g]) [0, 8] [1, 2, 3, 4, 5, 6, 7, 9] (zsp rfl rfl rfl) ?_
    exact next n f so sc X Z W D Cs F O Ft Ot Tc ((fX5_failures I R).2) R g (hS.t 0) hf1 hf2
