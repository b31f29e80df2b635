/-! THE CALLS: equal answers, the relation kept -/
def rX (n : Nat) (X O I : Nat → Int32) : Prop := X 2 = nI n ∧ X 3 = I 8 ∧ X 5 = I 15 ∧ X 8 = I 19 ∧ X 9 = I 20 ∧ X 10 = I 21 ∧ X 11 = I 22 ∧ X 12 = I 23 ∧ O 2 = I 17 ∧ O 3 = I 18 ∧ O 5 = I 16 ∧ (I 16 = 0 ∨ I 16 = 1)
def rK (n : Nat) (Cs : Nat → Nat → Nat → Int32) (R : Nat → Nat → Int32) : Prop := zwE R ∧ (∀ i, i < n → rC i (Cs i) R) ∧ ∀ q, 16 * n ≤ q → q < 64 → R 6 q = 3 ∧ R 7 q = 0 ∧ R 8 q = 0 ∧ R 9 q = 0 ∧ R 10 q = 0
def rR (n : Nat) (X : Nat → Int32) (Z : Nat → Nat → Int32) (W : Nat → Int32) (D : Nat → Nat → Int32) (Cs : Nat → Nat → Nat → Int32) (O I : Nat → Int32) (R : Nat → Nat → Int32) : Prop := rS n D I R ∧ rZ Z W I R ∧ rX n X O I ∧ rK n Cs R
theorem rR.t {n : Nat} {X W O I : Nat → Int32} {Z D R : Nat → Nat → Int32} {Cs : Nat → Nat → Nat → Int32} (h : rR n X Z W D Cs O I R) (v : Int32) : rR n X Z W D Cs O (va_up I 9 v) R := h
theorem rRow.mono {s : Nat} {C R R' : Nat → Nat → Int32} (h : rRow s C R) (h6 : R' 6 = R 6) (h7 : R' 7 = R 7) (h8 : R' 8 = R 8) (h9 : R' 9 = R 9) (h10 : R' 10 = R 10) : rRow s C R' := by
  intro r hr i hi
  have := h r hr i hi
  rcases (show r = 0 ∨ r = 1 ∨ r = 2 ∨ r = 3 ∨ r = 4 by omega) with rfl | rfl | rfl | rfl | rfl
  · show _ = R' 6 _; rw [h6]; exact this
  · show _ = R' 7 _; rw [h7]; exact this
  · show _ = R' 8 _; rw [h8]; exact this
  · show _ = R' 9 _; rw [h9]; exact this
  · show _ = R' 10 _; rw [h10]; exact this
theorem rK.mono {n : Nat} {Cs : Nat → Nat → Nat → Int32} {R R' : Nat → Nat → Int32} (h : rK n Cs R) (h6 : R' 6 = R 6) (h7 : R' 7 = R 7) (h8 : R' 8 = R 8) (h9 : R' 9 = R 9) (h10 : R' 10 = R 10) : rK n Cs R' := by
  refine ⟨?_, fun i hi => ⟨(h.2.1 i hi).1.mono h6 h7 h8 h9 h10, (h.2.1 i hi).2⟩, ?_⟩
  · unfold zwE zwC zwD
    rw [h6, h7]
    exact h.1
  · rw [h6, h7, h8, h9, h10]
    exact h.2.2
theorem rS.mono {n : Nat} {D : Nat → Nat → Int32} {I I' : Nat → Int32} {R R' : Nat → Nat → Int32} (h : rS n D I R) (i5 : I' 5 = I 5) (r4 : R' 4 = R 4) (r5 : R' 5 = R 5) : rS n D I' R' := by
  unfold rS
  rw [i5, r4, r5]
  exact h
theorem r_name0 (x : Int32) : (∃ j, j < 16 ∧ x = nI j ∧ fX4_requireName x = 0 ∧ fX5_isName x = 1) ∨ (fX4_requireName x = 1 ∧ fX5_isName x = 0) := by
  unfold fX4_requireName fX5_isName fX5_in
  by_cases h : x < 0
  · right; rw [if_pos h, if_pos h]; exact ⟨rfl, rfl⟩
  · obtain ⟨j, hj, rfl⟩ := nI_of h
    rw [if_neg h, if_neg h]
    by_cases q : j < 16
    · left
      refine ⟨j, q, rfl, ?_, ?_⟩
      · rw [if_pos (r_n16 q)]
      · rw [if_neg (show ¬ (15 : Int32) < nI j from nI_nlt (a := 15) (by omega) (by decide))]
    · right
      refine ⟨?_, ?_⟩
      · rw [if_neg (show ¬ nI j < 16 from nI_nlt (b := 16) (by omega) hj)]
      · rw [if_pos (show (15 : Int32) < nI j from nI_lt (a := 15) (by omega) hj)]
theorem r_name (x : Int32) : (∃ j, j < 16 ∧ x = nI j ∧ fX4_requireName x = 0 ∧ ¬ fX5_isName x = 0) ∨ (fX4_requireName x = 1 ∧ fX5_isName x = 0 ∧ ¬ fX4_requireName x = 0) := by
  rcases r_name0 x with ⟨j, hj, e, a1, a2⟩ | ⟨a1, a2⟩
  · exact Or.inl ⟨j, hj, e, a1, by rw [a2]; decide⟩
  · exact Or.inr ⟨a1, a2, by rw [a1]; decide⟩
theorem r_with0 (x a b : Int32) : (fX4_requireWithin x a b = 0 ∧ fX5_in x a b = 1 ∧ ¬ x < a ∧ x ≤ b) ∨ (fX4_requireWithin x a b = 2 ∧ fX5_in x a b = 0) := by
  unfold fX4_requireWithin fX5_in
  by_cases h : x < a
  · right; rw [if_pos h, if_pos h]; exact ⟨rfl, rfl⟩
  · rw [if_neg h, if_neg h]
    by_cases q : x ≤ b
    · left; rw [if_pos q, if_neg (Int32.not_lt.mpr q)]; exact ⟨rfl, rfl, h, q⟩
    · right; rw [if_neg q, if_pos (Int32.not_le.mp q)]; exact ⟨rfl, rfl⟩
theorem r_with (x a b : Int32) : (fX4_requireWithin x a b = 0 ∧ ¬ fX5_in x a b = 0 ∧ ¬ x < a ∧ x ≤ b) ∨ (fX4_requireWithin x a b = 2 ∧ fX5_in x a b = 0 ∧ ¬ fX4_requireWithin x a b = 0 ∧ ¬ fX4_requireWithin x a b = 1) := by
  rcases r_with0 x a b with ⟨a1, a2, a3⟩ | ⟨a1, a2⟩
  · exact Or.inl ⟨a1, by rw [a2]; decide, a3⟩
  · exact Or.inr ⟨a1, a2, by rw [a1]; decide, by rw [a1]; decide⟩
theorem r_99 {x : Int32} (h : ¬ x < 0) (q : x ≤ 99) : ∃ c, c < 100 ∧ x = nI c := by
  obtain ⟨c, hc, e⟩ := nI_of2 (M := 99) (n := 99) rfl h q
  exact ⟨c, by omega, e⟩
theorem r_siteH {n i : Nat} {I : Nat → Int32} {R : Nat → Nat → Int32} (h5 : I 5 = nI n) (hn : n ≤ 4) (hi : i < n) : fX5_isSite I R (nI i) = 1 := by
  unfold fX5_isSite fX5_in
  obtain ⟨m, rfl⟩ : ∃ m, n = m + 1 := ⟨n - 1, by omega⟩
  rw [if_neg (nI_pos (by omega)), h5, nI_pred, if_neg (nI_nlt (by omega) (by omega))]
theorem r_siteM {n : Nat} {I : Nat → Int32} {R : Nat → Nat → Int32} {x : Int32} (h5 : I 5 = nI n) (hn : n ≤ 4) (hx : ∀ i, i < n → x ≠ nI i) : fX5_isSite I R x = 0 := by
  unfold fX5_isSite fX5_in
  by_cases h : x < 0
  · rw [if_pos h]
  · obtain ⟨j, hj, rfl⟩ := nI_of h
    have hjn : n ≤ j := Nat.le_of_not_lt fun q => hx j q rfl
    rw [if_neg h, h5]
    refine if_pos ?_
    cases n with
    | zero =>
      show (-1 : Int32) < nI j
      rw [Int32.lt_iff_toInt_lt, nI_toInt hj]
      show (-1 : Int) < _
      omega
    | succ m =>
      rw [nI_pred]
      exact nI_lt (by omega) hj
theorem rZ_put {Z : Nat → Nat → Int32} {W I I' : Nat → Int32} {R R' : Nat → Nat → Int32} {j : Nat} {k v lf : Int32} (h : rZ Z W I R) (i3 : I' 3 = I 3) (i4 : I' 4 = I 4) (hk : k = 0 ∨ k = 1 ∨ k = 2) (r1 : R' 1 j = k) (hv : ¬ k = 2 → R' 2 j = v ∧ R' 3 j = lf) (h2 : k = 2 → v = (-3)) (h1 : k = 1 → vp_in (R' 2 j) 16)
    (ho : ∀ i, i ≠ j → R' 1 i = R 1 i ∧ R' 2 i = R 2 i ∧ R' 3 i = R 3 i) : rZ (va_up (va_up (va_up Z 0 (upd (Z 0) j k)) 1 (upd (Z 1) j v)) 2 (upd (Z 2) j lf)) W I' R' := by
  refine ⟨fun i hi => ?_, h.2.1.trans i3.symm, h.2.2.1.trans i4.symm, by rw [i4]; exact h.2.2.2⟩
  show (R' 1 i = 0 ∨ R' 1 i = 1 ∨ R' 1 i = 2) ∧ upd (Z 0) j k i = R' 1 i ∧ (¬ R' 1 i = 2 → upd (Z 1) j v i = R' 2 i ∧ upd (Z 2) j lf i = R' 3 i) ∧ (R' 1 i = 2 → upd (Z 1) j v i = (-3)) ∧ (R' 1 i = 1 → vp_in (R' 2 i) 16)
  by_cases e : i = j
  · subst e
    rw [r_us, r_us, r_us, r1]
    exact ⟨hk, rfl, fun q => ⟨(hv q).1.symm, (hv q).2.symm⟩, h2, h1⟩
  · obtain ⟨o1, o2, o3⟩ := ho i e
    rw [r_un _ _ e, r_un _ _ e, r_un _ _ e, o1, o2, o3]
    exact h.1 i hi
/-- equal answers of an int, of a boolean -/
def rE (k : Int32) (g : Nat → Int64) (I : Nat → Int32) (b : Int32) : Prop := I 9 = k ∧ (k = 0 → g 0 = b.toInt64)
def rB (k : Int32) (g : Nat → Int64) (I : Nat → Int32) (b : Int32) : Prop := I 9 = k ∧ (k = 0 → (b = 0 → g 0 = 0) ∧ (¬ b = 0 → g 0 = 1))
theorem r_g (g : Nat → Int64) (v : Int64) : vp_updL g 0 v 0 = v := by simp [vp_updL]
theorem n20 : ¬ (2 : Nat) = 0 := by decide
theorem n21 : ¬ (2 : Nat) = 1 := by decide
theorem n10 : ¬ (1 : Nat) = 0 := by decide
theorem i10 : ¬ (1 : Int32) = 0 := by decide
theorem i20 : ¬ (2 : Int32) = 0 := by decide
theorem i30 : ¬ (3 : Int32) = 0 := by decide
theorem n30 : ¬ (3 : Nat) = 0 := by decide
theorem n31 : ¬ (3 : Nat) = 1 := by decide
theorem n32 : ¬ (3 : Nat) = 2 := by decide
theorem q_setAddress {n : Nat} {X W O I : Nat → Int32} {Z D R : Nat → Nat → Int32} {Cs : Nat → Nat → Nat → Int32} {x1 x2 x3 : Int32} (h : rR n X Z W D Cs O I R) :
    (fX5_setAddress I R x1 x2 x3).1 9 = (fL_setAddress X Z W x1 x2 x3).1 ∧ rR n X (fL_setAddress X Z W x1 x2 x3).2 W D Cs O (fX5_setAddress I R x1 x2 x3).1 (fX5_setAddress I R x1 x2 x3).2 := by
  unfold fL_setAddress fX4_setAddress fX4_setAddress_s4 fX5_setAddress
  rcases r_name x1 with ⟨j, hj, rfl, a1, a2⟩ | ⟨a1, a2, a3⟩
  · rw [if_pos a1, if_neg a2]
    rcases r_with x2 1 9999 with ⟨b1, b2, _⟩ | ⟨b1, b2, b3, b4⟩
    · rw [if_pos b1, if_neg b2]
      rcases r_with x3 1 1000 with ⟨c1, c2, _⟩ | ⟨c1, c2, c3, c4⟩
      · rw [if_pos c1, if_neg c2, if_pos rfl]
        refine ⟨rfl, h.1.mono rfl rfl rfl, ?_, h.2.2.1, h.2.2.2.mono rfl rfl rfl rfl rfl⟩
        show rZ (fX3_put Z W (nI j) 0 x2 x3) W _ _
        unfold fX3_put
        rw [if_neg (r_n0 hj), if_pos (r_n16 hj), r_cl hj]
        refine rZ_put h.2.1 rfl rfl (Or.inl rfl) (r_us _ _ _) (fun _ => ⟨r_us _ _ _, r_us _ _ _⟩) (fun q => absurd q (by decide)) (fun q => absurd q (by decide)) (fun i hi => ⟨r_un _ _ hi, r_un _ _ hi, r_un _ _ hi⟩)
      · rw [if_neg c3, if_pos c2, if_neg c3, if_neg c4]
        exact ⟨rfl, h⟩
    · rw [if_neg b3, if_pos b2, if_neg b3, if_neg b4]
      exact ⟨rfl, h⟩
  · rw [if_neg a3, if_pos a2, if_neg a3, if_pos a1]
    exact ⟨rfl, h⟩
theorem q_setAlias {n : Nat} {X W O I : Nat → Int32} {Z D R : Nat → Nat → Int32} {Cs : Nat → Nat → Nat → Int32} {x1 x2 x3 : Int32} (h : rR n X Z W D Cs O I R) :
    (fX5_setAlias I R x1 x2 x3).1 9 = (fL_setAlias X Z W x1 x2 x3).1 ∧ rR n X (fL_setAlias X Z W x1 x2 x3).2 W D Cs O (fX5_setAlias I R x1 x2 x3).1 (fX5_setAlias I R x1 x2 x3).2 := by
  unfold fL_setAlias fX4_setAlias fX4_setAlias_s5 fX5_setAlias
  rcases r_name x1 with ⟨j, hj, rfl, a1, a2⟩ | ⟨a1, a2, a3⟩
  · rw [if_pos a1, if_neg a2]
    rcases r_name x2 with ⟨j2, hj2, rfl, b1, b2⟩ | ⟨b1, b2, b3⟩
    · rw [if_pos b1, if_neg b2]
      by_cases e : nI j2 = nI j
      · rw [if_pos e, if_pos e, if_neg n20, if_neg n21]
        exact ⟨rfl, h⟩
      · rw [if_neg e, if_neg e]
        rcases r_with x3 1 1000 with ⟨c1, c2, _⟩ | ⟨c1, c2, c3, c4⟩
        · rw [if_pos c1, if_neg c2, if_pos rfl]
          refine ⟨rfl, h.1.mono rfl rfl rfl, ?_, h.2.2.1, h.2.2.2.mono rfl rfl rfl rfl rfl⟩
          show rZ (fX3_put Z W (nI j) 1 (nI j2) x3) W _ _
          unfold fX3_put
          rw [if_neg (r_n0 hj), if_pos (r_n16 hj), r_cl hj]
          refine rZ_put h.2.1 rfl rfl (Or.inr (Or.inl rfl)) (r_us _ _ _) (fun _ => ⟨r_us _ _ _, r_us _ _ _⟩) (fun q => absurd q (by decide)) (fun _ => ?_) (fun i hi => ⟨r_un _ _ hi, r_un _ _ hi, r_un _ _ hi⟩)
          show vp_in (upd (R 2) j (nI j2) j) 16
          rw [r_us]
          exact z_nIr hj2 (by decide)
        · rw [if_neg c3, if_pos c2, if_neg c3, if_neg c4]
          exact ⟨rfl, h⟩
    · rw [if_neg b3, if_pos b2, if_neg b3, if_pos b1]
      exact ⟨rfl, h⟩
  · rw [if_neg a3, if_pos a2, if_neg a3, if_pos a1]
    exact ⟨rfl, h⟩
theorem q_remove {n : Nat} {X W O I : Nat → Int32} {Z D R : Nat → Nat → Int32} {Cs : Nat → Nat → Nat → Int32} {x1 : Int32} {g : Nat → Int64} (h : rR n X Z W D Cs O I R) :
    rB (fL_remove X Z W x1 g).1 (fL_remove X Z W x1 g).2.2 (fX5_remove I R x1).2.1 (fX5_remove I R x1).1 ∧ rR n X (fL_remove X Z W x1 g).2.1 W D Cs O (fX5_remove I R x1).2.1 (fX5_remove I R x1).2.2 := by
  unfold fL_remove fX4_remove fX4_remove_s3 fX4_remove_s4 fX5_remove
  rcases r_name x1 with ⟨j, hj, rfl, a1, a2⟩ | ⟨a1, a2, a3⟩
  · rw [if_pos a1, if_neg a2, r_kind h.2.1 hj, r_cl hj]
    have hp : fX3_put Z W (nI j) 2 (-3) 0 = va_up (va_up (va_up Z 0 (upd (Z 0) j 2)) 1 (upd (Z 1) j (-3))) 2 (upd (Z 2) j 0) := by
      unfold fX3_put
      rw [if_neg (r_n0 hj), if_pos (r_n16 hj), r_cl hj]
    rw [hp]
    by_cases e : R 1 j = 2
    · rw [if_pos e, if_pos e, if_pos rfl, if_pos rfl]
      exact ⟨⟨rfl, fun _ => ⟨fun _ => (r_g g _), fun q => absurd rfl q⟩⟩, h.1, rZ_put h.2.1 rfl rfl (Or.inr (Or.inr rfl)) e (fun q => absurd rfl q) (fun _ => rfl) (fun q => absurd q (by decide)) (fun i hi => ⟨rfl, rfl, rfl⟩), h.2.2.1, h.2.2.2⟩
    · rw [if_neg e, if_neg e, if_pos rfl, if_neg i10]
      exact ⟨⟨rfl, fun _ => ⟨fun q => absurd q i10, fun _ => (r_g g _)⟩⟩, h.1.mono rfl rfl rfl, rZ_put h.2.1 rfl rfl (Or.inr (Or.inr rfl)) (r_us _ _ _) (fun q => absurd rfl q) (fun _ => rfl) (fun q => absurd q (by decide)) (fun i hi => ⟨r_un _ _ hi, rfl, rfl⟩), h.2.2.1, h.2.2.2.mono rfl rfl rfl rfl rfl⟩
  · rw [if_neg a3, if_pos a2, if_neg a3]
    exact ⟨⟨rfl, fun q => absurd q i10⟩, h⟩
theorem q_setBound {n : Nat} {X W O I : Nat → Int32} {Z D R : Nat → Nat → Int32} {Cs : Nat → Nat → Nat → Int32} {x1 : Int32} {g : Nat → Int64} (h : rR n X Z W D Cs O I R) :
    rE (fL_setBound X Z W x1 g).1 (fL_setBound X Z W x1 g).2.2 (fX5_setBound I R x1).2 (fX5_setBound I R x1).1 ∧ rR n X Z (fL_setBound X Z W x1 g).2.1 D Cs O (fX5_setBound I R x1).2 R := by
  unfold fL_setBound fX4_setBound fX5_setBound
  rcases r_with x1 1 300 with ⟨b1, b2, _⟩ | ⟨b1, b2, b3, b4⟩
  · rw [if_pos b1, if_neg b2, if_pos rfl]
    exact ⟨⟨rfl, fun _ => (r_g g _).trans (congrArg Int32.toInt64 h.2.1.2.1)⟩, h.1, ⟨h.2.1.1, rfl, h.2.1.2.2⟩, h.2.2.1, h.2.2.2⟩
  · rw [if_neg b3, if_pos b2, if_neg b3]
    exact ⟨⟨rfl, fun q => absurd q i10⟩, h⟩
theorem q_setAuthority {n : Nat} {X W O I : Nat → Int32} {Z D R : Nat → Nat → Int32} {Cs : Nat → Nat → Nat → Int32} {x1 : Int32} (hx : x1 = 0 ∨ x1 = 1) (h : rR n X Z W D Cs O I R) :
    (fX4_setAuthority X Z W x1).1 = (fX5_setAuthority I R x1).1 ∧ rR n X Z (fX4_setAuthority X Z W x1).2 D Cs O (fX5_setAuthority I R x1).2 R :=
  ⟨h.2.1.2.2.1, h.1, ⟨h.2.1.1, h.2.1.2.1, rfl, hx⟩, h.2.2.1, h.2.2.2⟩
theorem q_truthL {X W I : Nat → Int32} {Z R : Nat → Nat → Int32} {x1 x2 : Int32} {I1 : Nat → Int32} (h : rZ Z W I R) : ∀ n a j, j < 16 → (fX4_truth_L8 X Z W x1 n a (nI j)).1 = 0 ∧ (fX4_truth_L8 X Z W x1 n a (nI j)).2 = (fX5_truth_L29 I R x2 n a (nI j) I1).1 ∧ (fX5_truth_L29 I R x2 n a (nI j) I1).2 = I1
  | 0, a, j, hj => ⟨rfl, rfl, rfl⟩
  | n + 1, a, j, hj => by
    rw [fX4_truth_L8, fX5_truth_L29, r_kind h hj, r_value h hj, r_cl hj]
    by_cases k0 : R 1 j = 0
    · rw [if_pos k0, if_neg (by rw [k0]; decide), if_pos k0, if_neg (by rw [k0]; decide)]
      exact ⟨rfl, rfl, rfl⟩
    · rw [if_neg k0, if_neg k0]
      by_cases k2 : R 1 j = 2
      · have k1 : ¬ R 1 j = 1 := by rw [k2]; decide
        rw [if_neg k1, if_pos k2]
        exact ⟨rfl, rfl, rfl⟩
      · have k1 : R 1 j = 1 := ((h.1 j hj).1.resolve_left k0).resolve_right k2
        obtain ⟨j', hj', ej⟩ := r_vp ((h.1 j hj).2.2.2.2 k1)
        rw [if_neg k2, if_pos k1, if_neg k2, ej]
        exact q_truthL h n (a + 1) j' hj'
theorem q_truth {n : Nat} {X W O I : Nat → Int32} {Z D R : Nat → Nat → Int32} {Cs : Nat → Nat → Nat → Int32} {x1 : Int32} {g : Nat → Int64} (h : rR n X Z W D Cs O I R) :
    rE (fL_truth X Z W x1 g).1 (fL_truth X Z W x1 g).2 (fX5_truth I R x1).2 (fX5_truth I R x1).1 ∧ rR n X Z W D Cs O (fX5_truth I R x1).2 R := by
  unfold fL_truth fX4_truth fX5_truth
  rcases r_name x1 with ⟨j, hj, rfl, a1, a2⟩ | ⟨a1, a2, a3⟩
  · obtain ⟨t1, t2, t3⟩ := q_truthL (X := X) (x1 := nI j) (x2 := nI j) (I1 := va_up I 9 0) h.2.1 5 0 j hj
    rw [if_pos a1, if_neg a2, if_pos t1, t3, t2]
    exact ⟨⟨rfl, fun _ => (r_g g _)⟩, h⟩
  · rw [if_neg a3, if_pos a2, if_neg a3]
    exact ⟨⟨rfl, fun q => absurd q i10⟩, h⟩
theorem q_pass {n : Nat} {X W O I : Nat → Int32} {Z D R : Nat → Nat → Int32} {Cs : Nat → Nat → Nat → Int32} {x1 : Int32} {g : Nat → Int64} (h : rR n X Z W D Cs O I R) :
    rE (fL_pass X x1 g).1 (fL_pass X x1 g).2.2 (fX5_pass I R x1).2 (fX5_pass I R x1).1 ∧ rR n (fL_pass X x1 g).2.1 Z W D Cs O (fX5_pass I R x1).2 R := by
  unfold fL_pass fX4_pass fX5_pass
  rcases r_with x1 1 1000 with ⟨b1, b2, _⟩ | ⟨b1, b2, b3, b4⟩
  · rw [if_pos b1, if_neg b2, if_pos rfl]
    obtain ⟨g2, g3, g5, gr⟩ := h.2.2.1
    rw [g3]
    exact ⟨⟨rfl, fun _ => (r_g g _)⟩, h.1, h.2.1, ⟨g2, rfl, g5, gr⟩, h.2.2.2⟩
  · rw [if_neg b3, if_pos b2, if_neg b3]
    exact ⟨⟨rfl, fun q => absurd q i10⟩, h⟩
theorem q_addSite {n : Nat} {X W O I : Nat → Int32} {Z D R : Nat → Nat → Int32} {Cs : Nat → Nat → Nat → Int32} {x1 : Int32} {g : Nat → Int64} (h : rR n X Z W D Cs O I R) :
    rE (fL_addSite X x1 g).1 (fL_addSite X x1 g).2 (fX5_addSite I R x1).2.1 (fX5_addSite I R x1).1 ∧
    if (fX4_addSite X x1).1 = 0 then n < 4 ∧ rR (n + 1) (fX4_addSite X x1).2.2 Z W (va_up D n (va_up (va_up (va_up (fun _ => 0) 0 (X 2)) 1 x1) 3 1)) (va_up Cs n zC0) O (fX5_addSite I R x1).2.1 (fX5_addSite I R x1).2.2 else rR n X Z W D Cs O (fX5_addSite I R x1).2.1 (fX5_addSite I R x1).2.2 := by
  obtain ⟨⟨s5, s4, sD, sO⟩, hZ, hX, hK⟩ := h
  have hx2 := hX.1
  unfold fL_addSite fX4_addSite fX5_addSite
  rcases r_with x1 0 99 with ⟨b1, b2, b3, b4⟩ | ⟨b1, b2, b3, b4⟩
  · rw [if_pos b1, if_neg b2, hx2, s5]
    obtain ⟨c, hc, ec⟩ := r_99 b3 b4
    by_cases q : n = 4
    · subst q
      have e1 : ¬ nI 4 < 4 := by decide
      have e2 : nI 4 = 4 := by decide
      rw [if_neg e1, if_pos e2, if_neg n30, if_neg n32, if_neg n30]
      exact ⟨⟨rfl, fun q => absurd q i20⟩, ⟨s5, s4, sD, sO⟩, hZ, hX, hK⟩
    · have hn : n < 4 := by omega
      have e1 : nI n < 4 := nI_lt (b := 4) hn (by decide)
      have e2 : ¬ nI n = 4 := fun e => q ((nI_eq (b := 4) (by omega) (by decide)).mp e)
      rw [if_pos e1, if_neg e2, if_pos rfl, if_pos rfl, nI_1, nI_pred, nI_clamp (by omega)]
      refine ⟨⟨rfl, fun _ => r_g g _⟩, hn, ⟨rfl, by omega, ?_, ?_⟩, hZ, ?_, ?_⟩
      · intro i hi
        by_cases e : i = n
        · subst e
          show va_up D i (va_up (va_up (va_up (fun _ => 0) 0 (nI i)) 1 x1) 3 1) i 0 = nI i ∧ va_up D i (va_up (va_up (va_up (fun _ => 0) 0 (nI i)) 1 x1) 3 1) i 1 = upd (R 4) i x1 i ∧ va_up D i (va_up (va_up (va_up (fun _ => 0) 0 (nI i)) 1 x1) 3 1) i 3 = upd (R 5) i 1 i ∧ ∃ p, p < 100 ∧ upd (R 4) i x1 i = nI p
          rw [va_up_self, r_us, r_us]
          exact ⟨rfl, rfl, rfl, c, hc, ec⟩
        · have := sD i (by omega)
          show va_up D n (va_up (va_up (va_up (fun _ => 0) 0 (nI n)) 1 x1) 3 1) i 0 = nI i ∧ va_up D n (va_up (va_up (va_up (fun _ => 0) 0 (nI n)) 1 x1) 3 1) i 1 = upd (R 4) n x1 i ∧ va_up D n (va_up (va_up (va_up (fun _ => 0) 0 (nI n)) 1 x1) 3 1) i 3 = upd (R 5) n 1 i ∧ ∃ p, p < 100 ∧ upd (R 4) n x1 i = nI p
          rw [va_up_ne _ _ e, r_un _ _ e, r_un _ _ e]
          exact this
      · intro i
        show upd (R 5) n 1 i = 0 ∨ upd (R 5) n 1 i = 1
        by_cases e : i = n
        · subst e; rw [r_us]; exact Or.inr rfl
        · rw [r_un _ _ e]; exact sO i
      · obtain ⟨_, g3, g5, gr⟩ := hX
        exact ⟨rfl, g3, g5, gr⟩
      · have hK' := hK.mono (R' := va_up (va_up R 4 (upd (R 4) n x1)) 5 (upd (R 5) n 1)) rfl rfl rfl rfl rfl
        refine ⟨hK'.1, fun i hi => ?_, fun q h1 h2 => hK'.2.2 q (by omega) h2⟩
        by_cases e : i = n
        · subst e
          rw [va_up_self]
          have z0 : ∀ j, j < 16 → zC0 0 j = 3 := by
            have z : ∀ j, j < 16 → fJ7_fill_53178 (fun _ => 0) 3 j = 3 := by decide +kernel
            exact z
          refine ⟨fun r hr j hj => ?_, ?_, ?_⟩
          · obtain ⟨k6, k7, k8, k9, k10⟩ := hK'.2.2 (16 * i + j) (by omega) (by omega)
            rcases (show r = 0 ∨ r = 1 ∨ r = 2 ∨ r = 3 ∨ r = 4 by omega) with rfl | rfl | rfl | rfl | rfl
            · exact (z0 j hj).trans k6.symm
            · exact k7.symm
            · exact k8.symm
            · exact k9.symm
            · exact k10.symm
          · rw [cnn_3 z0]; rfl
          · rw [cnn_3 z0]; omega
        · rw [va_up_ne _ _ e]
          exact hK'.2.1 i (by omega)
  · rw [if_neg b3, if_pos b2, if_neg b3, if_neg b3]
    have e : (fX4_requireWithin x1 0 99, (0 : Int32), X).1 = 2 := b1
    rw [if_pos e]
    exact ⟨⟨rfl, fun q => absurd q i10⟩, ⟨s5, s4, sD, sO⟩, hZ, hX, hK⟩
theorem q_announce_h {n i : Nat} {X W O I : Nat → Int32} {Z D R : Nat → Nat → Int32} {Cs : Nat → Nat → Nat → Int32} {x2 : Int32} {g : Nat → Int64} (h : rR n X Z W D Cs O I R) (hi : i < n) (hx : x2 = 0 ∨ x2 = 1) :
    rB (fL_announce_h D i x2 g).1 (fL_announce_h D i x2 g).2.2 (fX5_announce I R (nI i) x2).2.1 (fX5_announce I R (nI i) x2).1 ∧ rR n X Z W (fL_announce_h D i x2 g).2.1 Cs O (fX5_announce I R (nI i) x2).2.1 (fX5_announce I R (nI i) x2).2.2 := by
  obtain ⟨⟨s5, s4, sD, sO⟩, hZ, hX, hK⟩ := h
  have hs1 := r_siteH (R := R) s5 s4 hi
  unfold fL_announce_h fX4_announce_h fX5_announce
  rw [hs1, if_neg i10, nI_clamp (by omega)]
  have hd := (sD i hi).2.2.1
  have fin : rR n X Z W (va_up D i (va_up (D i) 3 x2)) Cs O (va_up I 9 0) (va_up R 5 (upd (R 5) i x2)) := by
    refine ⟨⟨s5, s4, fun k hk => ?_, fun k => ?_⟩, hZ, hX, hK.mono rfl rfl rfl rfl rfl⟩
    · show va_up D i (va_up (D i) 3 x2) k 0 = nI k ∧ va_up D i (va_up (D i) 3 x2) k 1 = R 4 k ∧ va_up D i (va_up (D i) 3 x2) k 3 = upd (R 5) i x2 k ∧ _
      by_cases e : k = i
      · subst e
        rw [va_up_self, r_us]
        have := sD k hk
        exact ⟨this.1, this.2.1, rfl, this.2.2.2⟩
      · rw [va_up_ne _ _ e, r_un _ _ e]
        exact sD k hk
    · show upd (R 5) i x2 k = 0 ∨ upd (R 5) i x2 k = 1
      by_cases e : k = i
      · subst e; rw [r_us]; exact hx
      · rw [r_un _ _ e]; exact sO k
  by_cases e : D i 3 = 0
  · rw [if_pos e]
    exact ⟨⟨rfl, fun _ => ⟨fun _ => r_g g _, fun q => absurd (hd.symm.trans e) q⟩⟩, fin⟩
  · rw [if_neg e]
    exact ⟨⟨rfl, fun _ => ⟨fun q => absurd (hd.trans q) e, fun _ => r_g g _⟩⟩, fin⟩
theorem q_announce_m {n : Nat} {X W O I : Nat → Int32} {Z D R : Nat → Nat → Int32} {Cs : Nat → Nat → Nat → Int32} {x1 x2 : Int32} {g : Nat → Int64} (h : rR n X Z W D Cs O I R) (hm : ∀ i, i < n → x1 ≠ nI i) :
    rB (fL_announce_m x1 x2 g) g (fX5_announce I R x1 x2).2.1 (fX5_announce I R x1 x2).1 ∧ rR n X Z W D Cs O (fX5_announce I R x1 x2).2.1 (fX5_announce I R x1 x2).2.2 := by
  have hs1 := r_siteM (R := R) h.1.1 h.1.2.1 hm
  unfold fX5_announce
  rw [if_pos hs1]
  exact ⟨⟨rfl, fun q => absurd q i10⟩, h⟩
theorem q_siteFor_h {n i : Nat} {X W O I : Nat → Int32} {Z D R : Nat → Nat → Int32} {Cs : Nat → Nat → Nat → Int32} {x1 : Int32} {g : Nat → Int64} (h : rR n X Z W D Cs O I R) (hN : fX4_near n D x1 = some i) :
    rE (fL_siteFor_h D i x1 g).1 (fL_siteFor_h D i x1 g).2 (fX5_siteFor I R x1).2 (fX5_siteFor I R x1).1 ∧ rR n X Z W D Cs O (fX5_siteFor I R x1).2 R := by
  unfold fL_siteFor_h fX4_siteFor_h fX5_siteFor
  rcases r_with x1 0 99 with ⟨b1, b2, b3, b4⟩ | ⟨b1, b2, b3, b4⟩
  · obtain ⟨c, hc, rfl⟩ := r_99 b3 b4
    rcases r_near (I := va_up I 9 0) h.1 hc with ⟨e, _⟩ | ⟨b, hb, e1, e2⟩
    · rw [e] at hN; exact absurd hN (by intro q; cases q)
    · rw [e1] at hN
      cases hN
      rw [if_pos b1, if_neg b2, if_pos rfl, e2, (h.1.2.2.1 i hb).1]
      exact ⟨⟨rfl, fun _ => r_g g _⟩, h⟩
  · rw [if_neg b3, if_pos b2, if_neg b3]
    exact ⟨⟨rfl, fun q => absurd q i10⟩, h⟩
theorem q_siteFor_m {n : Nat} {X W O I : Nat → Int32} {Z D R : Nat → Nat → Int32} {Cs : Nat → Nat → Nat → Int32} {x1 : Int32} {g : Nat → Int64} (h : rR n X Z W D Cs O I R) (hN : fX4_near n D x1 = none) :
    rE (fL_siteFor_m D x1 g).1 (fL_siteFor_m D x1 g).2 (fX5_siteFor I R x1).2 (fX5_siteFor I R x1).1 ∧ rR n X Z W D Cs O (fX5_siteFor I R x1).2 R := by
  unfold fL_siteFor_m fX4_siteFor_m fX5_siteFor
  rcases r_with x1 0 99 with ⟨b1, b2, b3, b4⟩ | ⟨b1, b2, b3, b4⟩
  · obtain ⟨c, hc, rfl⟩ := r_99 b3 b4
    rcases r_near (I := va_up I 9 0) h.1 hc with ⟨_, e2⟩ | ⟨b, hb, e1, _⟩
    · rw [if_pos b1, if_neg b2, if_pos rfl, e2]
      exact ⟨⟨rfl, fun _ => r_g g _⟩, h⟩
    · rw [e1] at hN; exact absurd hN (by intro q; cases q)
  · rw [if_neg b3, if_pos b2, if_neg b3]
    exact ⟨⟨rfl, fun q => absurd q i10⟩, h⟩
/-! entries -/
theorem r_entH {n i j : Nat} {I : Nat → Int32} {R : Nat → Nat → Int32} (h5 : I 5 = nI n) (hn : n ≤ 4) (hi : i < n) (hj : ¬ fX5_isName (nI j) = 0) : fX5_isEntry I R (nI i) (nI j) = (1, va_up I 9 0) := by
  unfold fX5_isEntry
  rw [r_siteH h5 hn hi, if_neg i10, if_neg hj]
theorem r_entN {n i : Nat} {x : Int32} {I : Nat → Int32} {R : Nat → Nat → Int32} (h5 : I 5 = nI n) (hn : n ≤ 4) (hi : i < n) (hj : fX5_isName x = 0) : fX5_isEntry I R (nI i) x = (0, va_up I 9 1) := by
  unfold fX5_isEntry
  rw [r_siteH h5 hn hi, if_neg i10, if_pos hj]
theorem r_entM {n : Nat} {x y : Int32} {I : Nat → Int32} {R : Nat → Nat → Int32} (h5 : I 5 = nI n) (hn : n ≤ 4) (hm : ∀ i, i < n → x ≠ nI i) : fX5_isEntry I R x y = (0, va_up I 9 1) := by
  unfold fX5_isEntry
  rw [r_siteM h5 hn hm, if_pos rfl]
theorem r_ca {D : Nat → Nat → Int32} {i : Nat} {x : Int32} : fX4_cacheAsked_h D i x = fX4_requireName x := by
  unfold fX4_cacheAsked_h
  split
  · rename_i e; exact e.symm
  · rfl
theorem q_flush_h {n i : Nat} {X W O I : Nat → Int32} {Z D R : Nat → Nat → Int32} {Cs : Nat → Nat → Nat → Int32} {x2 : Int32} {g : Nat → Int64} (h : rR n X Z W D Cs O I R) (hi : i < n) :
    rB (fL_flush_h D i (Cs i) x2 g).1 (fL_flush_h D i (Cs i) x2 g).2.2 (fX5_flush I R (nI i) x2).2.1 (fX5_flush I R (nI i) x2).1 ∧ rR n X Z W D (va_up Cs i (fL_flush_h D i (Cs i) x2 g).2.1) O (fX5_flush I R (nI i) x2).2.1 (fX5_flush I R (nI i) x2).2.2 := by
  have s5 := h.1.1
  have s4 := h.1.2.1
  have same : rR n X Z W D (va_up Cs i (Cs i)) O (va_up I 9 1) R := by
    have : va_up Cs i (Cs i) = Cs := by
      funext k
      by_cases e : k = i
      · subst e; rw [va_up_self]
      · rw [va_up_ne _ _ e]
    rw [this]
    exact h
  unfold fL_flush_h fX4_flush_h fX4_flush_s2 fX5_flush fX5_flush_s1
  rw [r_ca]
  rcases r_name x2 with ⟨j, hj, rfl, a1, a2⟩ | ⟨a1, a2, a3⟩
  · rw [r_entH s5 s4 hi a2, if_pos a1, if_pos rfl, if_neg i10, r_ix (by omega) hj]
    have hC := h.2.2.2.2.1 i hi
    have hk := hC.1.k hj
    unfold fX0_drop
    rw [r_has hj, r_cl hj]
    -- the row with a place set to 3
    have fin : ∀ C' : Nat → Nat → Int32, rC i C' (va_up R 6 (upd (R 6) (16 * i + j) 3)) → rR n X Z W D (va_up Cs i C') O (va_up I 9 0) (va_up R 6 (upd (R 6) (16 * i + j) 3)) := by
      intro C' hC'
      refine ⟨h.1.mono rfl rfl rfl, h.2.1, h.2.2.1, ?_, fun k hk' => ?_, fun q h1 h2 => ?_⟩
      · refine ⟨fun q hq h1 => h.2.2.2.1.1 q hq ?_, fun q hq => ?_⟩
        · by_cases e : q = 16 * i + j
          · rw [e] at h1
            have h2 : upd (R 6) (16 * i + j) 3 (16 * i + j) = 1 := h1
            rw [r_us] at h2
            exact absurd h2 (by decide)
          · have h2 : upd (R 6) (16 * i + j) 3 q = 1 := h1
            rw [r_un _ _ e] at h2
            exact h2
        · show (upd (R 6) (16 * i + j) 3 q = 0 ∨ upd (R 6) (16 * i + j) 3 q = 1 ∨ upd (R 6) (16 * i + j) 3 q = 2 ∨ upd (R 6) (16 * i + j) 3 q = 3) ∧ (upd (R 6) (16 * i + j) 3 q = 2 → R 7 q = (-3))
          by_cases e : q = 16 * i + j
          · rw [e, r_us]
            exact ⟨Or.inr (Or.inr (Or.inr rfl)), fun u => absurd u (by decide)⟩
          · rw [r_un _ _ e]
            exact h.2.2.2.1.2 q hq
      · by_cases e : k = i
        · subst e; rw [va_up_self]; exact hC'
        · rw [va_up_ne _ _ e]
          refine ⟨fun r hr i' hi' => ?_, (h.2.2.2.2.1 k hk').2⟩
          have h0 := (h.2.2.2.2.1 k hk').1 r hr i' hi'
          by_cases r0 : r = 0
          · subst r0
            show _ = upd (R 6) (16 * i + j) 3 (16 * k + i')
            rw [r_un _ _ (by omega)]
            exact h0
          · rw [va_up_ne _ _ (by omega)]
            exact h0
      · have := h.2.2.2.2.2 q h1 h2
        show upd (R 6) (16 * i + j) 3 q = 3 ∧ _
        rw [r_un _ _ (by omega)]
        exact this
    by_cases e : Cs i 0 j = 3
    · have e' : R 6 (16 * i + j) = 3 := by rw [← hk]; exact e
      rw [if_pos e, if_pos rfl, if_pos e', if_pos rfl]
      refine ⟨⟨rfl, fun _ => ⟨fun _ => r_g g _, fun q => absurd rfl q⟩⟩, fin _ ?_⟩
      have : upd (R 6) (16 * i + j) 3 = R 6 := by
        funext q
        by_cases u : q = 16 * i + j
        · subst u; rw [r_us]; exact e'.symm
        · rw [r_un _ _ u]
      refine ⟨hC.1.mono ?_ rfl rfl rfl rfl, hC.2⟩
      exact this
    · have e' : ¬ R 6 (16 * i + j) = 3 := by rw [← hk]; exact e
      rw [if_neg e, if_neg i10, if_neg e', if_neg i10]
      refine ⟨⟨rfl, fun _ => ⟨fun q => absurd q i10, fun _ => r_g g _⟩⟩, fin _ ⟨rRow.sz ?_ _, ?_, ?_⟩⟩
      · intro r hr i' hi'
        by_cases r0 : r = 0
        · subst r0
          show upd (Cs i 0) j 3 i' = upd (R 6) (16 * i + j) 3 (16 * i + i')
          by_cases q : i' = j
          · subst q; rw [r_us, r_us]
          · rw [r_un _ _ q, r_un _ _ (by omega)]; exact hC.1.k hi'
        · rw [va_up_ne _ _ r0, va_up_ne _ _ (by omega)]; exact hC.1 r hr i' hi'
      · have c1 := cnn_drop (n := 16) hj e
        show Cs i 5 0 - 1 = nI (cnn (upd (Cs i 0) j 3) 16)
        rw [hC.2.1, ← c1, nI_pred]
      · have c1 := cnn_drop (n := 16) hj e
        have := hC.2.2
        show cnn (upd (Cs i 0) j 3) 16 ≤ 6
        omega
  · rw [r_entN s5 s4 hi a2, if_neg a3, if_neg a3, if_pos rfl]
    exact ⟨⟨rfl, fun q => absurd q i10⟩, same⟩
theorem q_flush_m {n : Nat} {X W O I : Nat → Int32} {Z D R : Nat → Nat → Int32} {Cs : Nat → Nat → Nat → Int32} {x1 x2 : Int32} {g : Nat → Int64} (h : rR n X Z W D Cs O I R) (hm : ∀ i, i < n → x1 ≠ nI i) :
    rB (fL_flush_m x1 x2 g) g (fX5_flush I R x1 x2).2.1 (fX5_flush I R x1 x2).1 ∧ rR n X Z W D Cs O (fX5_flush I R x1 x2).2.1 (fX5_flush I R x1 x2).2.2 := by
  unfold fX5_flush fX5_flush_s1
  rw [r_entM h.1.1 h.1.2.1 hm, if_pos rfl]
  exact ⟨⟨rfl, fun q => absurd q i10⟩, h⟩
