set_option maxHeartbeats 8000000 in
set_option maxRecDepth 100000 in
theorem law_step (l : Launch) (hl : l.stackTraces = false) {K : zK} {p : Program} {e : Env} {s : State} {m : MethodId} {below : List Frame} {meth : Method} {c : Code} {A : Nat → Prop} {Q : State → Prop} {ret9 : Option FieldType} {nm9 : String} {tb9 : List ExceptionTableEntry} {args : Array Value} {b L ii k9 n9 : Nat} {xs : Nat → Int32} (B : zF K p l s m args meth c A cL_law 7 RL nm9 wsL_law ret9 tb9) (hX : va_X b L xs s s.heap) (hbl : b < s.heap.size) (hbA : ¬ A b) (hL : L ≤ 2048) (h4L : ii + 4 ≤ L) (hk9 : k9 + 16 ≤ 601024) (hn9 : n9 + 512 ≤ 7293034) {ax sa ao : Nat} {az ak tk tc am : Nat → Nat}
    (next : ∀ (n : Nat) (f : Nat → Option Nat) (so : Nat → Nat) (sc : Nat → Nat → Nat) (X : Nat → Int32) (Z : Nat → Nat → Int32) (W : Nat → Int32) (D : Nat → Nat → Int32) (Cs : Nat → Nat → Nat → Int32) (F : Nat → Int32) (O : Nat → Int32) (Ft : Nat → Int32) (Ot : Nat → Int32) (Tc : Nat → Nat → Int32) (I : Nat → Int32) (R : Nat → Nat → Int32) (g : Nat → Int64), rR n X Z W D Cs O I R → (∀ a, a < n → f a = some (so a)) → (∀ a, n ≤ a → a < 4 → f a = none) → zW K p l e zR s m args below meth c A Q (k9 + 16) (n9 + 512) (zFu K ax sa ao az ak tk tc am n f so sc X Z W D Cs F O Ft Ot Tc I R g) [(0, .ref b), (1, .ref ax), (2, .ref (am 0)), (3, .ref ao), (4, .int (nI ii))] [] 1428) : ∀ (n : Nat) (f : Nat → Option Nat) (so : Nat → Nat) (sc : Nat → Nat → Nat) (X : Nat → Int32) (Z : Nat → Nat → Int32) (W : Nat → Int32) (D : Nat → Nat → Int32) (Cs : Nat → Nat → Nat → Int32) (F : Nat → Int32) (O : Nat → Int32) (Ft : Nat → Int32) (Ot : Nat → Int32) (Tc : Nat → Nat → Int32) (I : Nat → Int32) (R : Nat → Nat → Int32) (g : Nat → Int64), rR n X Z W D Cs O I R → (∀ a, a < n → f a = some (so a)) → (∀ a, n ≤ a → a < 4 → f a = none) → zW K p l e zR s m args below meth c A Q k9 n9 (zFu K ax sa ao az ak tk tc am n f so sc X Z W D Cs F O Ft Ot Tc I R g) [(0, .ref b), (1, .ref ax), (2, .ref (am 0)), (3, .ref ao), (4, .int (nI ii))] [] 32 := by
  intro n f so sc X Z W D Cs F O Ft Ot Tc I R g hS hf1 hf2
  refine z_aload_n B dL_law_32 0 rfl ?_
  refine z_iload B dL_law_33 4 rfl ?_
  refine z_sld B hX hbl hbA (z_nIr (by omega) (by omega)) rfl dL_law_35 ?_
  refine z_bipush B (v := 31) dL_law_36 rfl ?_
  refine z_iand B dL_law_38 ?_
  obtain ⟨o, ho, eo⟩ := r_31 (xs (nI ii).toNatClampNeg)
  rw [eo]
  rcases (show o = 0 ∨ o = 1 ∨ o = 2 ∨ o = 3 ∨ o = 4 ∨ o = 5 ∨ o = 6 ∨ o = 7 ∨ o = 8 ∨ o = 9 ∨ o = 10 ∨ o = 11 ∨ o = 12 ∨ o = 13 ∨ o = 14 ∨ o = 15 ∨ o = 16 ∨ o = 17 ∨ o = 18 ∨ o = 19 ∨ o = 20 ∨ o = 21 ∨ o = 22 ∨ o = 23 ∨ o = 24 ∨ o = 25 ∨ o = 26 ∨ o = 27 ∨ 28 ≤ o by omega) with rfl | rfl | rfl | rfl | rfl | rfl | rfl | rfl | rfl | rfl | rfl | rfl | rfl | rfl | rfl | rfl | rfl | rfl | rfl | rfl | rfl | rfl | rfl | rfl | rfl | rfl | rfl | rfl | h28
  · exact law_op0 l hl B hX hbl hbA hL h4L hk9 hn9 next n f so sc X Z W D Cs F O Ft Ot Tc I R g hS hf1 hf2
  · exact law_op1 l hl B hX hbl hbA hL h4L hk9 hn9 next n f so sc X Z W D Cs F O Ft Ot Tc I R g hS hf1 hf2
  · exact law_op2 l hl B hX hbl hbA hL h4L hk9 hn9 next n f so sc X Z W D Cs F O Ft Ot Tc I R g hS hf1 hf2
  · exact law_op3 l hl B hX hbl hbA hL h4L hk9 hn9 next n f so sc X Z W D Cs F O Ft Ot Tc I R g hS hf1 hf2
  · exact law_op4 l hl B hX hbl hbA hL h4L hk9 hn9 next n f so sc X Z W D Cs F O Ft Ot Tc I R g hS hf1 hf2
  · exact law_op5 l hl B hX hbl hbA hL h4L hk9 hn9 next n f so sc X Z W D Cs F O Ft Ot Tc I R g hS hf1 hf2
  · exact law_op6 l hl B hX hbl hbA hL h4L hk9 hn9 next n f so sc X Z W D Cs F O Ft Ot Tc I R g hS hf1 hf2
  · exact law_op7 l hl B hX hbl hbA hL h4L hk9 hn9 next n f so sc X Z W D Cs F O Ft Ot Tc I R g hS hf1 hf2
  · exact law_op8 l hl B hX hbl hbA hL h4L hk9 hn9 next n f so sc X Z W D Cs F O Ft Ot Tc I R g hS hf1 hf2
  · exact law_op9 l hl B hX hbl hbA hL h4L hk9 hn9 next n f so sc X Z W D Cs F O Ft Ot Tc I R g hS hf1 hf2
  · exact law_op10 l hl B hX hbl hbA hL h4L hk9 hn9 next n f so sc X Z W D Cs F O Ft Ot Tc I R g hS hf1 hf2
  · exact law_op11 l hl B hX hbl hbA hL h4L hk9 hn9 next n f so sc X Z W D Cs F O Ft Ot Tc I R g hS hf1 hf2
  · exact law_op12 l hl B hX hbl hbA hL h4L hk9 hn9 next n f so sc X Z W D Cs F O Ft Ot Tc I R g hS hf1 hf2
  · exact law_op13 l hl B hX hbl hbA hL h4L hk9 hn9 next n f so sc X Z W D Cs F O Ft Ot Tc I R g hS hf1 hf2
  · exact law_op14 l hl B hX hbl hbA hL h4L hk9 hn9 next n f so sc X Z W D Cs F O Ft Ot Tc I R g hS hf1 hf2
  · exact law_op15 l hl B hX hbl hbA hL h4L hk9 hn9 next n f so sc X Z W D Cs F O Ft Ot Tc I R g hS hf1 hf2
  · exact law_op16 l hl B hX hbl hbA hL h4L hk9 hn9 next n f so sc X Z W D Cs F O Ft Ot Tc I R g hS hf1 hf2
  · exact law_op17 l hl B hX hbl hbA hL h4L hk9 hn9 next n f so sc X Z W D Cs F O Ft Ot Tc I R g hS hf1 hf2
  · exact law_op18 l hl B hX hbl hbA hL h4L hk9 hn9 next n f so sc X Z W D Cs F O Ft Ot Tc I R g hS hf1 hf2
  · exact law_op19 l hl B hX hbl hbA hL h4L hk9 hn9 next n f so sc X Z W D Cs F O Ft Ot Tc I R g hS hf1 hf2
  · exact law_op20 l hl B hX hbl hbA hL h4L hk9 hn9 next n f so sc X Z W D Cs F O Ft Ot Tc I R g hS hf1 hf2
  · exact law_op21 l hl B hX hbl hbA hL h4L hk9 hn9 next n f so sc X Z W D Cs F O Ft Ot Tc I R g hS hf1 hf2
  · exact law_op22 l hl B hX hbl hbA hL h4L hk9 hn9 next n f so sc X Z W D Cs F O Ft Ot Tc I R g hS hf1 hf2
  · exact law_op23 l hl B hX hbl hbA hL h4L hk9 hn9 next n f so sc X Z W D Cs F O Ft Ot Tc I R g hS hf1 hf2
  · exact law_op24 l hl B hX hbl hbA hL h4L hk9 hn9 next n f so sc X Z W D Cs F O Ft Ot Tc I R g hS hf1 hf2
  · exact law_op25 l hl B hX hbl hbA hL h4L hk9 hn9 next n f so sc X Z W D Cs F O Ft Ot Tc I R g hS hf1 hf2
  · exact law_op26 l hl B hX hbl hbA hL h4L hk9 hn9 next n f so sc X Z W D Cs F O Ft Ot Tc I R g hS hf1 hf2
  · exact law_op27 l hl B hX hbl hbA hL h4L hk9 hn9 next n f so sc X Z W D Cs F O Ft Ot Tc I R g hS hf1 hf2
  · refine z_tsO B 1428 dL_law_39 (Or.inr ?_) rfl ?_
    · rw [nI_toInt (by omega)]; omega
    · exact z_widen (Nat.le_add_right _ _) (Nat.le_add_right _ _) (next n f so sc X Z W D Cs F O Ft Ot Tc I R g hS hf1 hf2)
