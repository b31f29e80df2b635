theorem q_entries_h {n i : Nat} {X W O I : Nat → Int32} {Z D R : Nat → Nat → Int32} {Cs : Nat → Nat → Nat → Int32} {g : Nat → Int64} (h : rR n X Z W D Cs O I R) (hi : i < n) :
    rE (fL_entries_h D i (Cs i) g).1 (fL_entries_h D i (Cs i) g).2 (fX5_entries I R (nI i)).2 (fX5_entries I R (nI i)).1 ∧ rR n X Z W D Cs O (fX5_entries I R (nI i)).2 R := by
  have s4 := h.1.2.1
  have hC := h.2.2.2.2.1 i hi
  unfold fL_entries_h fX4_entries_h fX5_entries
  rw [r_siteH h.1.1 s4 hi, if_neg i10, r_size (by omega) hC.1, hC.2.1]
  exact ⟨⟨rfl, fun _ => r_g g _⟩, h⟩
theorem q_entries_m {n : Nat} {X W O I : Nat → Int32} {Z D R : Nat → Nat → Int32} {Cs : Nat → Nat → Nat → Int32} {x1 : Int32} {g : Nat → Int64} (h : rR n X Z W D Cs O I R) (hm : ∀ i, i < n → x1 ≠ nI i) :
    rE (fL_entries_m x1 g) g (fX5_entries I R x1).2 (fX5_entries I R x1).1 ∧ rR n X Z W D Cs O (fX5_entries I R x1).2 R := by
  unfold fX5_entries
  rw [r_siteM h.1.1 h.1.2.1 hm, if_pos rfl]
  exact ⟨⟨rfl, fun q => absurd q i10⟩, h⟩
theorem q_cachedKind_h {n i : Nat} {X W O I : Nat → Int32} {Z D R : Nat → Nat → Int32} {Cs : Nat → Nat → Nat → Int32} {x2 : Int32} {g : Nat → Int64} (h : rR n X Z W D Cs O I R) (hi : i < n) :
    rE (fL_cachedKind_h D i (Cs i) x2 g).1 (fL_cachedKind_h D i (Cs i) x2 g).2 (fX5_cachedKind I R (nI i) x2).2 (fX5_cachedKind I R (nI i) x2).1 ∧ rR n X Z W D Cs O (fX5_cachedKind I R (nI i) x2).2 R := by
  have s4 := h.1.2.1
  have hC := h.2.2.2.2.1 i hi
  unfold fL_cachedKind_h fX4_cachedKind_h fX5_cachedKind fX5_cachedKind_s1
  rw [r_ca]
  rcases r_name x2 with ⟨j, hj, rfl, a1, a2⟩ | ⟨a1, a2, a3⟩
  · rw [r_entH h.1.1 s4 hi a2, if_pos a1, if_pos rfl, if_neg i10, r_ix (by omega) hj, r_kO hj, hC.1.k hj]
    exact ⟨⟨rfl, fun _ => r_g g _⟩, h⟩
  · rw [r_entN h.1.1 s4 hi a2, if_neg a3, if_neg a3, if_pos rfl]
    exact ⟨⟨rfl, fun q => absurd q i10⟩, h⟩
theorem q_cachedKind_m {n : Nat} {X W O I : Nat → Int32} {Z D R : Nat → Nat → Int32} {Cs : Nat → Nat → Nat → Int32} {x1 x2 : Int32} {g : Nat → Int64} (h : rR n X Z W D Cs O I R) (hm : ∀ i, i < n → x1 ≠ nI i) :
    rE (fL_cachedKind_m x1 x2 g) g (fX5_cachedKind I R x1 x2).2 (fX5_cachedKind I R x1 x2).1 ∧ rR n X Z W D Cs O (fX5_cachedKind I R x1 x2).2 R := by
  unfold fX5_cachedKind fX5_cachedKind_s1
  rw [r_entM h.1.1 h.1.2.1 hm, if_pos rfl]
  exact ⟨⟨rfl, fun q => absurd q i10⟩, h⟩
theorem q_cachedValue_h {n i : Nat} {X W O I : Nat → Int32} {Z D R : Nat → Nat → Int32} {Cs : Nat → Nat → Nat → Int32} {x2 : Int32} {g : Nat → Int64} (h : rR n X Z W D Cs O I R) (hi : i < n) :
    rE (fL_cachedValue_h D i (Cs i) x2 g).1 (fL_cachedValue_h D i (Cs i) x2 g).2 (fX5_cachedValue I R (nI i) x2).2 (fX5_cachedValue I R (nI i) x2).1 ∧ rR n X Z W D Cs O (fX5_cachedValue I R (nI i) x2).2 R := by
  have s4 := h.1.2.1
  have hC := h.2.2.2.2.1 i hi
  have hk3 : ∀ j, j < 16 → Cs i 0 j = 2 → Cs i 1 j = (-3) := fun j hj q => by
    rw [hC.1.k hj] at q
    rw [hC.1.v hj]
    exact (h.2.2.2.1.2 _ (by omega)).2 q
  have hk4 : ∀ j, j < 16 → Cs i 0 j = 0 ∨ Cs i 0 j = 1 ∨ Cs i 0 j = 2 ∨ Cs i 0 j = 3 := fun j hj => by
    rw [hC.1.k hj]
    exact (h.2.2.2.1.2 _ (by omega)).1
  unfold fL_cachedValue_h fX4_cachedValue_h fX5_cachedValue fX5_cachedValue_s1
  rw [r_ca]
  rcases r_name x2 with ⟨j, hj, rfl, a1, a2⟩ | ⟨a1, a2, a3⟩
  · rw [r_entH h.1.1 s4 hi a2, if_pos a1, if_pos rfl, if_neg i10, r_ix (by omega) hj, r_vO hj, ← hC.1.k hj, ← hC.1.v hj]
    rcases hk4 j hj with e | e | e | e
    · rw [if_pos e, if_neg (by rw [e]; decide)]
      exact ⟨⟨rfl, fun _ => r_g g _⟩, h⟩
    · rw [e, if_neg i10, if_pos rfl, if_neg (by decide)]
      exact ⟨⟨rfl, fun _ => r_g g _⟩, h⟩
    · rw [hk3 j hj e, e, if_neg i20, if_neg (by decide), if_neg (by decide)]
      exact ⟨⟨rfl, fun _ => r_g g _⟩, h⟩
    · rw [e, if_neg i30, if_pos rfl, if_neg (by decide)]
      exact ⟨⟨rfl, fun _ => r_g g _⟩, h⟩
  · rw [r_entN h.1.1 s4 hi a2, if_neg a3, if_neg a3, if_pos rfl]
    exact ⟨⟨rfl, fun q => absurd q i10⟩, h⟩
theorem q_cachedValue_m {n : Nat} {X W O I : Nat → Int32} {Z D R : Nat → Nat → Int32} {Cs : Nat → Nat → Nat → Int32} {x1 x2 : Int32} {g : Nat → Int64} (h : rR n X Z W D Cs O I R) (hm : ∀ i, i < n → x1 ≠ nI i) :
    rE (fL_cachedValue_m x1 x2 g) g (fX5_cachedValue I R x1 x2).2 (fX5_cachedValue I R x1 x2).1 ∧ rR n X Z W D Cs O (fX5_cachedValue I R x1 x2).2 R := by
  unfold fX5_cachedValue fX5_cachedValue_s1
  rw [r_entM h.1.1 h.1.2.1 hm, if_pos rfl]
  exact ⟨⟨rfl, fun q => absurd q i10⟩, h⟩
theorem q_left_h {n i : Nat} {X W O I : Nat → Int32} {Z D R : Nat → Nat → Int32} {Cs : Nat → Nat → Nat → Int32} {x2 : Int32} {g : Nat → Int64} (h : rR n X Z W D Cs O I R) (hi : i < n) :
    rE (fL_left_h X D i (Cs i) x2 g).1 (fL_left_h X D i (Cs i) x2 g).2 (fX5_left I R (nI i) x2).2 (fX5_left I R (nI i) x2).1 ∧ rR n X Z W D Cs O (fX5_left I R (nI i) x2).2 R := by
  have s4 := h.1.2.1
  have hC := h.2.2.2.2.1 i hi
  unfold fL_left_h fX4_left_h fX5_left fX5_left_s1
  rw [r_ca]
  rcases r_name x2 with ⟨j, hj, rfl, a1, a2⟩ | ⟨a1, a2, a3⟩
  · rw [r_entH h.1.1 s4 hi a2, if_pos a1, if_neg i10, r_ix (by omega) hj, r_has hj, ← hC.1.k hj, ← hC.1.e hj]
    by_cases e : Cs i 0 j = 3
    · rw [if_pos e, if_pos rfl, if_pos e, if_neg n30, if_neg n31]
      exact ⟨⟨rfl, fun q => absurd q i20⟩, h⟩
    · have he : fX0_endOf (Cs i) (nI j) = Cs i 3 j := by
        unfold fX0_endOf
        rw [r_has hj, if_neg e, if_neg i10, r_cl hj]
      rw [if_neg e, if_neg i10, if_neg e, if_pos rfl, he, h.2.2.1.2.1]
      exact ⟨⟨rfl, fun _ => r_g g _⟩, h⟩
  · rw [r_entN h.1.1 s4 hi a2, if_neg a3, if_neg a3, if_pos a1, if_pos rfl]
    exact ⟨⟨rfl, fun q => absurd q i10⟩, h⟩
theorem q_left_m {n : Nat} {X W O I : Nat → Int32} {Z D R : Nat → Nat → Int32} {Cs : Nat → Nat → Nat → Int32} {x1 x2 : Int32} {g : Nat → Int64} (h : rR n X Z W D Cs O I R) (hm : ∀ i, i < n → x1 ≠ nI i) :
    rE (fL_left_m x1 x2 g) g (fX5_left I R x1 x2).2 (fX5_left I R x1 x2).1 ∧ rR n X Z W D Cs O (fX5_left I R x1 x2).2 R := by
  unfold fX5_left fX5_left_s1
  rw [r_entM h.1.1 h.1.2.1 hm, if_pos rfl]
  exact ⟨⟨rfl, fun q => absurd q i10⟩, h⟩
theorem q_hitsOf_h {n i : Nat} {X W O I : Nat → Int32} {Z D R : Nat → Nat → Int32} {Cs : Nat → Nat → Nat → Int32} {x2 : Int32} {g : Nat → Int64} (h : rR n X Z W D Cs O I R) (hi : i < n) :
    rE (fL_hitsOf_h D i (Cs i) x2 g).1 (fL_hitsOf_h D i (Cs i) x2 g).2 (fX5_hitsOf I R (nI i) x2).2 (fX5_hitsOf I R (nI i) x2).1 ∧ rR n X Z W D Cs O (fX5_hitsOf I R (nI i) x2).2 R := by
  have s4 := h.1.2.1
  have hC := h.2.2.2.2.1 i hi
  unfold fL_hitsOf_h fX4_hitsOf_h fX5_hitsOf fX5_hitsOf_s1
  rw [r_ca]
  rcases r_name x2 with ⟨j, hj, rfl, a1, a2⟩ | ⟨a1, a2, a3⟩
  · have hh : fX0_hitsFor (Cs i) (nI j) = if Cs i 0 j = 3 then 0 else Cs i 4 j := by
      unfold fX0_hitsFor
      rw [r_has hj, r_cl hj]
      by_cases e : Cs i 0 j = 3
      · rw [if_pos e, if_pos rfl, if_pos e]
      · rw [if_neg e, if_neg i10, if_neg e]
    rw [r_entH h.1.1 s4 hi a2, if_pos a1, if_pos rfl, if_neg i10, r_ix (by omega) hj, hh, ← hC.1.k hj, ← hC.1.h hj]
    by_cases e : Cs i 0 j = 3
    · rw [if_pos e, if_pos e]
      exact ⟨⟨rfl, fun _ => r_g g _⟩, h⟩
    · rw [if_neg e, if_neg e]
      exact ⟨⟨rfl, fun _ => r_g g _⟩, h⟩
  · rw [r_entN h.1.1 s4 hi a2, if_neg a3, if_neg a3, if_pos rfl]
    exact ⟨⟨rfl, fun q => absurd q i10⟩, h⟩
theorem q_hitsOf_m {n : Nat} {X W O I : Nat → Int32} {Z D R : Nat → Nat → Int32} {Cs : Nat → Nat → Nat → Int32} {x1 x2 : Int32} {g : Nat → Int64} (h : rR n X Z W D Cs O I R) (hm : ∀ i, i < n → x1 ≠ nI i) :
    rE (fL_hitsOf_m x1 x2 g) g (fX5_hitsOf I R x1 x2).2 (fX5_hitsOf I R x1 x2).1 ∧ rR n X Z W D Cs O (fX5_hitsOf I R x1 x2).2 R := by
  unfold fX5_hitsOf fX5_hitsOf_s1
  rw [r_entM h.1.1 h.1.2.1 hm, if_pos rfl]
  exact ⟨⟨rfl, fun q => absurd q i10⟩, h⟩
