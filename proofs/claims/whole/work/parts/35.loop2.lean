theorem r_room {a k t N : Nat} (h : k + a * (t + 1) ≤ N) : k + a ≤ N ∧ k + a + a * t ≤ N := by
  rw [Nat.mul_succ] at h
  constructor <;> omega
theorem r_room0 {a k t N : Nat} (h : k + a * t ≤ N) : k ≤ N := Nat.le_trans (Nat.le_add_right _ _) h
set_option maxHeartbeats 4000000 in
set_option maxRecDepth 100000 in
theorem law_loop (l : Launch) (hl : l.stackTraces = false) {K : zK} {p : Program} {e : Env} {s : State} {m : MethodId} {below : List Frame} {meth : Method} {c : Code} {A : Nat → Prop} {Q : State → Prop} {ret9 : Option FieldType} {nm9 : String} {tb9 : List ExceptionTableEntry} {args : Array Value} {b L : Nat} {xs : Nat → Int32} (B : zF K p l s m args meth c A cL_law 7 RL nm9 wsL_law ret9 tb9) (hX : va_X b L xs s s.heap) (hbl : b < s.heap.size) (hbA : ¬ A b) (hL : L ≤ 2048) {ax sa ao : Nat} {az ak tk tc am : Nat → Nat}
    (hend : ∀ (k n : Nat) (bs : zB) (lv : List (Nat × Value)), k ≤ 601024 → n ≤ 7293034 → zW K p l e zR s m args below meth c A Q k n bs lv [.int 1] 1435) : ∀ (t ii k9 n9 : Nat), L ≤ ii + 4 * t → ii ≤ 2048 + 4 → k9 + 16 * t ≤ 601024 → n9 + 512 * t ≤ 7293034 →
    ∀ (n : Nat) (f : Nat → Option Nat) (so : Nat → Nat) (sc : Nat → Nat → Nat) (X : Nat → Int32) (Z : Nat → Nat → Int32) (W : Nat → Int32) (D : Nat → Nat → Int32) (Cs : Nat → Nat → Nat → Int32) (F O Ft Ot : Nat → Int32) (Tc : Nat → Nat → Int32) (I : Nat → Int32) (R : Nat → Nat → Int32) (g : Nat → Int64), rR n X Z W D Cs O I R → (∀ a, a < n → f a = some (so a)) → (∀ a, n ≤ a → a < 4 → f a = none) →
      zW K p l e zR s m args below meth c A Q k9 n9 (zFu K ax sa ao az ak tk tc am n f so sc X Z W D Cs F O Ft Ot Tc I R g) [(0, .ref b), (1, .ref ax), (2, .ref (am 0)), (3, .ref ao), (4, .int (nI ii))] [] 23 := by
  intro t
  induction t with
  | zero =>
    intro ii k9 n9 h1 h2 h3 h4 n f so sc X Z W D Cs F O Ft Ot Tc I R g hS hf1 hf2
    refine z_iload B dL_law_23 4 rfl ?_
    refine z_aload_n B dL_law_25 0 rfl ?_
    refine z_slen B hX hbl hbA dL_law_26 ?_
    refine z_iconst B (v := 4) dL_law_27 rfl ?_
    refine z_isub B dL_law_28 ?_
    refine z_icgt B 1434 dL_law_29 (by decide) (fun _ => ?_) (fun q => absurd ((r_end hL (by omega)).mpr (by omega)) q)
    refine z_iconst B (v := 1) dL_law_1434 rfl ?_
    exact hend _ _ _ _ (r_room0 h3) (r_room0 h4)
  | succ t ih =>
    intro ii k9 n9 h1 h2 h3 h4 n f so sc X Z W D Cs F O Ft Ot Tc I R g hS hf1 hf2
    refine z_iload B dL_law_23 4 rfl ?_
    refine z_aload_n B dL_law_25 0 rfl ?_
    refine z_slen B hX hbl hbA dL_law_26 ?_
    refine z_iconst B (v := 4) dL_law_27 rfl ?_
    refine z_isub B dL_law_28 ?_
    refine z_icgt B 1434 dL_law_29 (by decide) (fun _ => ?_) (fun q => ?_)
    · refine z_iconst B (v := 1) dL_law_1434 rfl ?_
      exact hend _ _ _ _ (r_room0 h3) (r_room0 h4)
    · have h5 : ii + 4 ≤ L := Nat.le_of_not_lt fun u => q ((r_end hL (by omega)).mpr (by omega))
      refine law_step l hl B hX hbl hbA hL h5 (r_room h3).1 (r_room h4).1 ?_ n f so sc X Z W D Cs F O Ft Ot Tc I R g hS hf1 hf2
      intro n f so sc X Z W D Cs F O Ft Ot Tc I R g hS hf1 hf2
      refine z_iinc B (v := nI (ii + 4)) (lv' := [(4, .int (nI (ii + 4))), (0, .ref b), (1, .ref ax), (2, .ref (am 0)), (3, .ref ao)]) dL_law_1428 4 rfl (nI_add ii 4) (by decide) rfl ?_
      refine z_goto B (tgt := 23) dL_law_1431 (by decide) ?_
      refine z_lsub [1, 2, 3, 4, 0] rfl ?_
      exact ih (ii + 4) (k9 + 16) (n9 + 512) (by omega) (by omega) (r_room h3).2 (r_room h4).2 n f so sc X Z W D Cs F O Ft Ot Tc I R g hS hf1 hf2
