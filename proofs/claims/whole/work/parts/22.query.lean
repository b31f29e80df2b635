/-! query, wouldAnswer -/
theorem va_up_id {α : Type} (f : Nat → α) (i : Nat) : va_up f i (f i) = f := by
  funext k
  by_cases e : k = i
  · subst e; rw [va_up_self]
  · rw [va_up_ne _ _ e]
theorem r_saH1 {D : Nat → Nat → Int32} {i : Nat} {x1 x2 : Int32} (a1 : fX4_requireName x2 = 1) (a3 : ¬ fX4_requireName x2 = 0) : fX4_siteAsked_h D i x1 x2 = 1 := by
  unfold fX4_siteAsked_h
  rw [if_neg a3, a1]
theorem r_saH2 {D : Nat → Nat → Int32} {i : Nat} {x1 x2 : Int32} (a1 : fX4_requireName x2 = 0) (b1 : fX4_requireWithin x1 0 99 = 2) (b3 : ¬ fX4_requireWithin x1 0 99 = 0) : fX4_siteAsked_h D i x1 x2 = 2 := by
  unfold fX4_siteAsked_h
  rw [if_pos a1, if_neg b3, b1]
theorem r_saH0 {D : Nat → Nat → Int32} {i : Nat} {x1 x2 : Int32} (a1 : fX4_requireName x2 = 0) (b1 : fX4_requireWithin x1 0 99 = 0) : fX4_siteAsked_h D i x1 x2 = 0 := by
  unfold fX4_siteAsked_h
  rw [if_pos a1, if_pos b1]
theorem r_saM1 {D : Nat → Nat → Int32} {x1 x2 : Int32} (a1 : fX4_requireName x2 = 1) (a3 : ¬ fX4_requireName x2 = 0) : fX4_siteAsked_m D x1 x2 = 1 := by
  unfold fX4_siteAsked_m
  rw [if_neg a3, a1]
theorem r_saM2 {D : Nat → Nat → Int32} {x1 x2 : Int32} (a1 : fX4_requireName x2 = 0) (b1 : fX4_requireWithin x1 0 99 = 2) (b3 : ¬ fX4_requireWithin x1 0 99 = 0) : fX4_siteAsked_m D x1 x2 = 2 := by
  unfold fX4_siteAsked_m
  rw [if_pos a1, if_neg b3, b1]
theorem r_saM3 {D : Nat → Nat → Int32} {x1 x2 : Int32} (a1 : fX4_requireName x2 = 0) (b1 : fX4_requireWithin x1 0 99 = 0) : fX4_siteAsked_m D x1 x2 = 3 := by
  unfold fX4_siteAsked_m
  rw [if_pos a1, if_pos b1]
theorem r_cA1 {I : Nat → Int32} {R : Nat → Nat → Int32} {x1 x2 : Int32} (a2 : fX5_isName x2 = 0) : fX5_canAsk I R x1 x2 = (0, va_up I 9 1) := by
  unfold fX5_canAsk
  rw [if_pos a2]
theorem r_cA2 {I : Nat → Int32} {R : Nat → Nat → Int32} {x1 x2 : Int32} (a2 : ¬ fX5_isName x2 = 0) (b2 : fX5_in x1 0 99 = 0) : fX5_canAsk I R x1 x2 = (0, va_up I 9 2) := by
  unfold fX5_canAsk
  rw [if_neg a2, if_pos b2]
theorem r_cA3 {I : Nat → Int32} {R : Nat → Nat → Int32} {x1 x2 : Int32} (a2 : ¬ fX5_isName x2 = 0) (b2 : ¬ fX5_in x1 0 99 = 0) (hN : fX5_nearest I R x1 = (-3)) : fX5_canAsk I R x1 x2 = (0, va_up I 9 3) := by
  unfold fX5_canAsk
  rw [if_neg a2, if_neg b2, if_pos hN]
theorem r_cA0 {I : Nat → Int32} {R : Nat → Nat → Int32} {x1 x2 : Int32} (a2 : ¬ fX5_isName x2 = 0) (b2 : ¬ fX5_in x1 0 99 = 0) {i : Nat} (hi : i < 4) (hN : fX5_nearest I R x1 = nI i) : fX5_canAsk I R x1 x2 = (1, va_up I 9 0) := by
  unfold fX5_canAsk
  have : ¬ nI i = (-3) := by
    have h : ∀ i, i < 4 → ¬ nI i = (-3) := by decide
    exact h i hi
  rw [if_neg a2, if_neg b2, hN, if_neg this]
theorem q_query_m {n : Nat} {X W O I : Nat → Int32} {Z D R : Nat → Nat → Int32} {Cs : Nat → Nat → Nat → Int32} {x1 x2 : Int32} {g : Nat → Int64} (h : rR n X Z W D Cs O I R) (hN : fX4_near n D x1 = none) :
    rE (fL_query_m D x1 x2 g) g (fX5_query I R x1 x2).2.1 (fX5_query I R x1 x2).1 ∧ rR n X Z W D Cs O (fX5_query I R x1 x2).2.1 (fX5_query I R x1 x2).2.2 := by
  unfold fL_query_m fX4_query_m fX5_query
  rcases r_name x2 with ⟨j, hj, rfl, a1, a2⟩ | ⟨a1, a2, a3⟩
  · rcases r_with x1 0 99 with ⟨b1, b2, b3, b4⟩ | ⟨b1, b2, b3, b4⟩
    · obtain ⟨c, hc, rfl⟩ := r_99 b3 b4
      rcases r_near h.1 hc with ⟨_, e2⟩ | ⟨b, hb, e1, _⟩
      · rw [r_saM3 a1 b1, r_cA3 a2 b2 e2, if_pos rfl, if_neg n31, if_neg n32]
        exact ⟨⟨rfl, fun q => absurd q i30⟩, h⟩
      · rw [e1] at hN; exact absurd hN (by intro q; cases q)
    · rw [r_saM2 a1 b1 b3, r_cA2 a2 b2, if_pos rfl, if_neg n21, if_pos rfl]
      exact ⟨⟨rfl, fun q => absurd q i20⟩, h⟩
  · rw [r_saM1 a1 a3, r_cA1 a2, if_pos rfl, if_pos rfl]
    exact ⟨⟨rfl, fun q => absurd q i10⟩, h⟩
/-- the counts at the beginning -/
def zb (X I : Nat → Int32) : Nat → Int32 := fun k => if k = 20 then I 20 else if k = 21 then I 21 else if k = 16 then I 16 else if k = 17 then I 17 else if k = 18 then I 18 else 0
theorem r_begin {s : Nat} {X W F O I : Nat → Int32} {Z C R : Nat → Nat → Int32} (hC : rC s C R) (hZ : rZ Z W I R) (hE : zwE R) (hX : X 3 = I 8) (h16 : I 16 = 0 ∨ I 16 = 1) (h25 : I 25 = 0) : rQ s 0 (zb X I) X W F (fX1_begin F O) I Z C R :=
  ⟨hC, hZ, hE, hX, ⟨(Int32.add_zero _).symm, (Int32.add_zero _).symm, (Int32.add_zero _).symm, (Int32.add_zero _).symm, rfl, h16, Or.inl rfl⟩, 0, Nat.le_refl _, nI_0.symm, h25.trans nI_0.symm, fun k hk => absurd hk (by omega)⟩
theorem q_query_h {n i : Nat} {X W F O I : Nat → Int32} {Z D R : Nat → Nat → Int32} {Cs : Nat → Nat → Nat → Int32} {x1 x2 : Int32} {g : Nat → Int64} (h : rR n X Z W D Cs O I R) (hi : i < n) (hN : fX4_near n D x1 = some i) :
    rE (fL_query_h X D i (Cs i) Z W F O x1 x2 g).1 (fL_query_h X D i (Cs i) Z W F O x1 x2 g).2.2.2.2.2 (fX5_query I R x1 x2).2.1 (fX5_query I R x1 x2).1 ∧
    rR n (fL_query_h X D i (Cs i) Z W F O x1 x2 g).2.1 Z W D (va_up Cs i (fL_query_h X D i (Cs i) Z W F O x1 x2 g).2.2.1) (fL_query_h X D i (Cs i) Z W F O x1 x2 g).2.2.2.2.1 (fX5_query I R x1 x2).2.1 (fX5_query I R x1 x2).2.2 := by
  have same : ∀ v, rR n X Z W D (va_up Cs i (Cs i)) O (va_up I 9 v) R := by
    intro v
    rw [va_up_id]
    exact h
  unfold fL_query_h fX4_query_h fX5_query
  rcases r_name x2 with ⟨j, hj, rfl, a1, a2⟩ | ⟨a1, a2, a3⟩
  · rcases r_with x1 0 99 with ⟨b1, b2, b3, b4⟩ | ⟨b1, b2, b3, b4⟩
    · obtain ⟨c, hc, rfl⟩ := r_99 b3 b4
      obtain ⟨⟨s5, s4, sD, sO⟩, hZ, hX, hK⟩ := h
      have h4 : i < 4 := by omega
      have nr : ∀ J : Nat → Int32, J 5 = nI n → fX5_nearest J R (nI c) = nI i := by
        intro J hJ
        rcases r_near (I := J) (n := n) (D := D) (R := R) ⟨hJ, s4, sD, sO⟩ hc with ⟨e, _⟩ | ⟨b, hb, e1, e2⟩
        · rw [e] at hN; exact absurd hN (by intro q; cases q)
        · rw [e1] at hN; cases hN; exact e2
      have nr' : fX5_nearest I R (nI c) = nI i := nr I s5
      rw [r_saH0 a1 b1, r_cA0 a2 b2 h4 nr', if_pos rfl, if_neg i10, nr (va_up I 9 0) s5]
      unfold fX4_query_s2 fX4_query_s3 fX4_query_s4
      generalize hI1 : va_up (va_up (va_up (va_up (va_up (va_up I 9 0) 15 (nI i)) 16 0) 17 0) 18 0) 25 0 = I1
      have q0 : rQ i 0 (zb X I1) X W F (fX1_begin F O) I1 Z (Cs i) R := by
        subst hI1
        exact r_begin (hK.2.1 i hi) hZ hK.1 hX.2.1 (Or.inl rfl) rfl
      obtain ⟨g1, g2, g3, g4⟩ := r_resL (F := F) (O := O) (I := I1) (C := Cs i) (R := R) (x1 := nI j) (x2 := nI j) h4 5 0 j (Cs i) F (fX1_begin F O) I1 R rfl hj q0
      change (fX4_resolve X Z W (Cs i) F O (nI j)).1 = (fX5_resolve I1 R (nI i) (nI j)).1 at g1
      change rQ i 5 (zb X I1) X W (fX4_resolve X Z W (Cs i) F O (nI j)).2.2.1 (fX4_resolve X Z W (Cs i) F O (nI j)).2.2.2 (fX5_resolve I1 R (nI i) (nI j)).2.1 Z (fX4_resolve X Z W (Cs i) F O (nI j)).2.1 (fX5_resolve I1 R (nI i) (nI j)).2.2 at g2
      change rF i I1 R (fX5_resolve I1 R (nI i) (nI j)).2.1 (fX5_resolve I1 R (nI i) (nI j)).2.2 at g3
      obtain ⟨k1, k2⟩ := r_hotA h4 g2
      rw [← g1]
      generalize fX4_resolve X Z W (Cs i) F O (nI j) = o at *
      generalize fX5_resolve I1 R (nI i) (nI j) = o' at *
      have hF := g3.trans k2
      generalize fX4_fetchHotAnew X Z W o.2.1 o.2.2.1 o.2.2.2 = t at *
      generalize fX5_fetchHot o'.2.1 o'.2.2 (nI i) = t' at *
      obtain ⟨hC', hZ', hE', hX', ⟨c17, c18, c20, c21, c16, cb, c5⟩, _⟩ := k1
      have fin : ∀ (sv fv : Int32) (X' : Nat → Int32), X' 2 = X 2 → X' 3 = X 3 → X' 5 = D i 0 → X' 8 = X 8 + 1 → X' 9 = X 9 + t.2 3 → X' 10 = X 10 + t.2 4 → X' 11 = X 11 + sv → X' 12 = X 12 + fv → rR n X' Z W D (va_up Cs i t.1) t.2 (va_up (va_up (va_up t'.1 19 (t'.1 19 + 1)) 22 (t'.1 22 + sv)) 23 (t'.1 23 + fv)) t'.2 := by
        intro sv fv X' x2 x3 x5 x8 x9 x10 x11 x12
        obtain ⟨y2, y3, y5, y8, y9, y10, y11, y12, _⟩ := hX
        have i20' : I1 20 = I 20 := by subst hI1; rfl
        have i21' : I1 21 = I 21 := by subst hI1; rfl
        refine ⟨⟨(hF.1 5 (by decide)).trans (by subst hI1; exact s5), s4, ?_, ?_⟩, hZ', ⟨x2.trans y2, x3.trans hX', ?_, ?_, ?_, ?_, ?_, ?_, ?_, ?_, ?_, ?_⟩, hE', ?_, ?_⟩
        · rw [hF.2.1 4 (by decide), hF.2.1 5 (by decide)]; exact sD
        · rw [hF.2.1 5 (by decide)]; exact sO
        · show X' 5 = t'.1 15
          rw [x5, (sD i hi).1, hF.1 15 (by decide)]
          subst hI1; rfl
        · show X' 8 = t'.1 19 + 1
          rw [x8, y8, hF.1 19 (by decide)]
          subst hI1; rfl
        · show X' 9 = t'.1 20
          rw [x9, y9, c20, ← i20']; rfl
        · show X' 10 = t'.1 21
          rw [x10, y10, c21, ← i21']; rfl
        · show X' 11 = t'.1 22 + sv
          rw [x11, y11, hF.1 22 (by decide)]
          subst hI1; rfl
        · show X' 12 = t'.1 23 + fv
          rw [x12, y12, hF.1 23 (by decide)]
          subst hI1; rfl
        · show t.2 2 = t'.1 17
          rw [c17]
          subst hI1
          exact (Int32.zero_add _).symm
        · show t.2 3 = t'.1 18
          rw [c18]
          subst hI1
          exact (Int32.zero_add _).symm
        · show t.2 5 = t'.1 16
          rw [c16]
          subst hI1
          rcases c5 with e | e
          · rw [e]; rfl
          · rw [e]; rfl
        · show t'.1 16 = 0 ∨ t'.1 16 = 1
          rw [c16]
          split
          · exact cb
          · exact Or.inr rfl
        · intro k hk
          by_cases e : k = i
          · subst e; rw [va_up_self]; exact hC'
          · rw [va_up_ne _ _ e]
            refine ⟨fun r hr i' hi' => ?_, (hK.2.1 k hk).2⟩
            rw [hF.2.2 (6 + r) (16 * k + i') (by omega) (by omega) (by omega)]
            exact (hK.2.1 k hk).1 r hr i' hi'
        · intro q h1 h2
          rw [hF.2.2 6 q (by decide) (by decide) (by omega), hF.2.2 7 q (by decide) (by decide) (by omega), hF.2.2 8 q (by decide) (by decide) (by omega), hF.2.2 9 q (by decide) (by decide) (by omega), hF.2.2 10 q (by decide) (by decide) (by omega)]
          exact hK.2.2 q h1 h2
      have h9 : t'.1 9 = 0 := by
        rw [hF.1 9 (by decide)]
        subst hI1; rfl
      have st : (t.2 5 = 0 → t'.1 16 = 0) ∧ (¬ t.2 5 = 0 → ¬ t'.1 16 = 0) := by
        rw [c16]
        refine ⟨fun e => ?_, fun e => ?_⟩
        · rw [if_pos e]; subst hI1; rfl
        · rw [if_neg e]; decide
      unfold fX4_countQuery
      rw [if_pos (show (0 : Nat) = 0 from rfl)]
      by_cases z : t.2 5 = 0
      · rw [if_pos z, if_pos (st.1 z)]
        by_cases f : o.1 = (-2)
        · rw [if_pos f, if_pos f]
          exact ⟨⟨h9, fun _ => r_g g _⟩, fin 0 1 _ rfl rfl rfl rfl rfl rfl (Int32.add_zero _).symm rfl⟩
        · rw [if_neg f, if_neg f]
          exact ⟨⟨h9, fun _ => r_g g _⟩, fin 0 0 _ rfl rfl rfl rfl rfl rfl (Int32.add_zero _).symm (Int32.add_zero _).symm⟩
      · rw [if_neg z, if_neg (st.2 z)]
        by_cases f : o.1 = (-2)
        · rw [if_pos f, if_pos f]
          exact ⟨⟨h9, fun _ => r_g g _⟩, fin 1 1 _ rfl rfl rfl rfl rfl rfl rfl rfl⟩
        · rw [if_neg f, if_neg f]
          exact ⟨⟨h9, fun _ => r_g g _⟩, fin 1 0 _ rfl rfl rfl rfl rfl rfl rfl (Int32.add_zero _).symm⟩
    · rw [r_saH2 a1 b1 b3, r_cA2 a2 b2, if_neg n20, if_pos rfl, if_neg n20, if_neg n21]
      exact ⟨⟨rfl, fun q => absurd q i20⟩, same 2⟩
  · rw [r_saH1 a1 a3, r_cA1 a2, if_neg n10, if_pos rfl, if_neg n10, if_pos rfl]
    exact ⟨⟨rfl, fun q => absurd q i10⟩, same 1⟩
