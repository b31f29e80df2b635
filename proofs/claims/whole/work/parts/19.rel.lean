/-! RELATION: the class's caches and the reference's rows -/
theorem r_us (f : Nat → Int32) (i : Nat) (v : Int32) : upd f i v i = v := by simp [upd]
theorem r_un (f : Nat → Int32) {i j : Nat} (v : Int32) (h : j ≠ i) : upd f i v j = f j := by simp [upd, h]
theorem r_ix {s j : Nat} (hs : s < 4) (hj : j < 16) : ((16 * nI s) + nI j).toNatClampNeg = 16 * s + j := by
  have h : ∀ s, s < 4 → ∀ j, j < 16 → ((16 * nI s) + nI j).toNatClampNeg = 16 * s + j := by decide +kernel
  exact h s hs j hj
theorem r_ixm {s j : Nat} (hs : s < 4) (hj : j < 16) : ¬ (16 * nI s) + nI j = (-3) := by
  have h : ∀ s, s < 4 → ∀ j, j < 16 → ¬ (16 * nI s) + nI j = (-3) := by decide +kernel
  exact h s hs j hj
theorem r_cl {j : Nat} (hj : j < 16) : (nI j).toNatClampNeg = j := nI_clamp (by omega)
theorem r_n0 {j : Nat} (hj : j < 16) : ¬ nI j < 0 := nI_pos (by omega)
theorem r_n16 {j : Nat} (hj : j < 16) : nI j < 16 := nI_lt hj (by decide)
theorem r_n16' {j : Nat} (hj : j < 16) : ¬ 16 ≤ nI j := nI_ge hj (by decide)
/-- the entries of a row -/
def cnn (k : Nat → Int32) : Nat → Nat
  | 0 => 0
  | n + 1 => cnn k n + (if k n = 3 then 0 else 1)
theorem cnn_upd (k : Nat → Int32) (j : Nat) (v : Int32) : ∀ n, (n ≤ j → cnn (upd k j v) n = cnn k n) ∧ (j < n → cnn (upd k j v) n + (if k j = 3 then 0 else 1) = cnn k n + (if v = 3 then 0 else 1))
  | 0 => ⟨fun _ => rfl, fun h => absurd h (by omega)⟩
  | n + 1 => by
    obtain ⟨h1, h2⟩ := cnn_upd k j v n
    refine ⟨fun h => ?_, fun h => ?_⟩
    · rw [cnn, cnn, h1 (by omega), r_un _ _ (by omega)]
    · rw [cnn, cnn]
      by_cases e : n = j
      · subst e
        rw [h1 (Nat.le_refl _), r_us]
        generalize (if k n = 3 then 0 else 1) = x
        generalize (if v = 3 then 0 else 1) = y
        omega
      · rw [r_un _ _ e]
        have h3 := h2 (by omega)
        revert h3
        generalize (if k n = 3 then 0 else 1) = x
        generalize (if k j = 3 then 0 else 1) = y
        generalize (if v = 3 then 0 else 1) = z
        intro h3
        omega
theorem cnn_congr {k k' : Nat → Int32} : ∀ {n : Nat}, (∀ j, j < n → k j = k' j) → cnn k n = cnn k' n
  | 0, _ => rfl
  | n + 1, h => by rw [cnn, cnn, cnn_congr (fun j hj => h j (by omega)), h n (by omega)]
theorem cnn_3 {k : Nat → Int32} : ∀ {n : Nat}, (∀ j, j < n → k j = 3) → cnn k n = 0
  | 0, _ => rfl
  | n + 1, h => by rw [cnn, cnn_3 (fun j hj => h j (by omega)), if_pos (h n (by omega))]
theorem cnn_put {k : Nat → Int32} {j n : Nat} {v : Int32} (hj : j < n) (h : k j = 3) (hv : ¬ v = 3) : cnn (upd k j v) n = cnn k n + 1 := by
  have h1 := (cnn_upd k j v n).2 hj
  rw [if_pos h, if_neg hv] at h1
  exact h1
theorem cnn_same {k : Nat → Int32} {j n : Nat} {v : Int32} (hj : j < n) (h : ¬ k j = 3) (hv : ¬ v = 3) : cnn (upd k j v) n = cnn k n := by
  have h1 := (cnn_upd k j v n).2 hj
  rw [if_neg h, if_neg hv] at h1
  omega
theorem cnn_drop {k : Nat → Int32} {j n : Nat} (hj : j < n) (h : ¬ k j = 3) : cnn (upd k j 3) n + 1 = cnn k n := by
  have h1 := (cnn_upd k j 3 n).2 hj
  rw [if_neg h, if_pos rfl] at h1
  omega
/-- the rows of a cache are the reference's at site s -/
def rRow (s : Nat) (C R : Nat → Nat → Int32) : Prop := ∀ r, r < 5 → ∀ j, j < 16 → C r j = R (6 + r) (16 * s + j)
def rC (s : Nat) (C R : Nat → Nat → Int32) : Prop := rRow s C R ∧ C 5 0 = nI (cnn (C 0) 16) ∧ cnn (C 0) 16 ≤ 6
theorem rRow.k {s : Nat} {C R : Nat → Nat → Int32} (h : rRow s C R) {j : Nat} (hj : j < 16) : C 0 j = R 6 (16 * s + j) := h 0 (by decide) j hj
theorem rRow.v {s : Nat} {C R : Nat → Nat → Int32} (h : rRow s C R) {j : Nat} (hj : j < 16) : C 1 j = R 7 (16 * s + j) := h 1 (by decide) j hj
theorem rRow.l {s : Nat} {C R : Nat → Nat → Int32} (h : rRow s C R) {j : Nat} (hj : j < 16) : C 2 j = R 8 (16 * s + j) := h 2 (by decide) j hj
theorem rRow.e {s : Nat} {C R : Nat → Nat → Int32} (h : rRow s C R) {j : Nat} (hj : j < 16) : C 3 j = R 9 (16 * s + j) := h 3 (by decide) j hj
theorem rRow.h {s : Nat} {C R : Nat → Nat → Int32} (h : rRow s C R) {j : Nat} (hj : j < 16) : C 4 j = R 10 (16 * s + j) := h 4 (by decide) j hj
theorem r_sizeL {I : Nat → Int32} {R : Nat → Nat → Int32} {s : Nat} (hs : s < 4) (k : Nat → Int32) (hk : ∀ j, j < 16 → k j = R 6 (16 * s + j)) : ∀ n a, a + n = 16 → fX5_size_L4 I R (nI s) n a (nI (cnn k a)) = nI (cnn k 16)
  | 0, a, h => by rw [fX5_size_L4, show a = 16 by omega]
  | n + 1, a, h => by
    rw [fX5_size_L4, r_ix hs (by omega), ← hk a (by omega)]
    have ih := r_sizeL (I := I) hs k hk n (a + 1) (by omega)
    rw [cnn] at ih
    split
    · rename_i e
      rw [if_pos e] at ih
      rw [Int32.add_zero]
      exact ih
    · rename_i e
      rw [if_neg e] at ih
      rw [nI_1]
      exact ih
theorem r_size {I : Nat → Int32} {R : Nat → Nat → Int32} {s : Nat} {C : Nat → Nat → Int32} (hs : s < 4) (h : rRow s C R) : fX5_size I R (nI s) = nI (cnn (C 0) 16) := by
  have h1 := r_sizeL (I := I) hs (C 0) (fun j hj => h.k hj) 16 0 rfl
  rw [show cnn (C 0) 0 = 0 from rfl, nI_0] at h1
  exact h1
theorem r_mr {I : Nat → Int32} {R : Nat → Nat → Int32} {s : Nat} {C : Nat → Nat → Int32} (hs : s < 4) (h : rRow s C R) : ∀ (n a : Nat) (g g' : Int32), a + n = 16 → ((g = (-3) ∧ g' = (-3) ∧ ∀ b, b < a → C 0 b = 3) ∨ ∃ b, b < 16 ∧ g = nI b ∧ g' = 16 * nI s + nI b ∧ ¬ C 0 b = 3) →
    (∀ b, b < 16 → C 0 b = 3) ∨ ∃ b, b < 16 ∧ ¬ C 0 b = 3 ∧ fX0_firstToEnd_L5 C n a g = nI b ∧ fX5_makeRoom_L8 I R (nI s) n a g' = va_up R 6 (upd (R 6) (16 * s + b) 3)
  | 0, a, g, g', ha, hg => by
    rcases hg with ⟨_, _, h3⟩ | ⟨b, hb, rfl, rfl, h3⟩
    · exact Or.inl (fun b hb => h3 b (by omega))
    · exact Or.inr ⟨b, hb, h3, by rw [fX0_firstToEnd_L5], by rw [fX5_makeRoom_L8, r_ix hs hb]⟩
  | n + 1, a, g, g', ha, hg => by
    have h16 : a < 16 := by omega
    rw [fX0_firstToEnd_L5, fX5_makeRoom_L8, r_ix hs h16, r_cl h16, ← h.k h16, ← h.e h16]
    by_cases e : C 0 a = 3
    · rw [if_pos e, if_pos e]
      refine r_mr hs h n (a + 1) g g' (by omega) (hg.imp (fun ⟨h1, h2, h3⟩ => ⟨h1, h2, fun b hb => ?_⟩) id)
      by_cases q : b = a
      · rw [q]; exact e
      · exact h3 b (by omega)
    · rw [if_neg e, if_neg e]
      rcases hg with ⟨rfl, rfl, h3⟩ | ⟨b, hb, rfl, rfl, h3⟩
      · rw [if_pos (by decide), if_pos rfl]
        exact r_mr hs h n (a + 1) _ _ (by omega) (Or.inr ⟨a, h16, rfl, rfl, e⟩)
      · rw [if_neg (r_n0 hb), if_neg (r_ixm hs hb), r_ix hs hb, r_cl hb, ← h.e hb]
        by_cases q : C 3 b ≤ C 3 a
        · rw [if_pos q, if_pos q]
          exact r_mr hs h n (a + 1) _ _ (by omega) (Or.inr ⟨b, hb, rfl, rfl, h3⟩)
        · rw [if_neg q, if_neg q]
          exact r_mr hs h n (a + 1) _ _ (by omega) (Or.inr ⟨a, h16, rfl, rfl, e⟩)
/-- the zone -/
def rZ (Z : Nat → Nat → Int32) (W I : Nat → Int32) (R : Nat → Nat → Int32) : Prop := (∀ j, j < 16 → (R 1 j = 0 ∨ R 1 j = 1 ∨ R 1 j = 2) ∧ Z 0 j = R 1 j ∧ (¬ R 1 j = 2 → Z 1 j = R 2 j ∧ Z 2 j = R 3 j) ∧ (R 1 j = 2 → Z 1 j = (-3)) ∧ (R 1 j = 1 → vp_in (R 2 j) 16)) ∧ W 3 = I 3 ∧ W 4 = I 4 ∧ (I 4 = 0 ∨ I 4 = 1)
theorem r_kind {Z : Nat → Nat → Int32} {W I : Nat → Int32} {R : Nat → Nat → Int32} (h : rZ Z W I R) {j : Nat} (hj : j < 16) : fX3_kindOf Z W (nI j) = R 1 j := by
  unfold fX3_kindOf
  rw [if_neg (r_n0 hj), if_pos (r_n16 hj), r_cl hj]
  exact (h.1 j hj).2.1
theorem r_value {Z : Nat → Nat → Int32} {W I : Nat → Int32} {R : Nat → Nat → Int32} (h : rZ Z W I R) {j : Nat} (hj : j < 16) : fX3_valueOf Z W (nI j) = if R 1 j = 2 then (-3) else R 2 j := by
  unfold fX3_valueOf
  rw [if_neg (r_n0 hj), if_pos (r_n16 hj), r_cl hj]
  by_cases e : R 1 j = 2
  · rw [if_pos e]; exact (h.1 j hj).2.2.2.1 e
  · rw [if_neg e]; exact ((h.1 j hj).2.2.1 e).1
theorem r_life {Z : Nat → Nat → Int32} {W I : Nat → Int32} {R : Nat → Nat → Int32} (h : rZ Z W I R) {j : Nat} (hj : j < 16) : fX3_lifeOf Z W (nI j) = if R 1 j = 2 then I 3 else R 3 j := by
  unfold fX3_lifeOf
  rw [if_neg (r_n0 hj), if_neg (r_n16' hj), r_cl hj, (h.1 j hj).2.1, h.2.1]
  by_cases e : R 1 j = 2
  · rw [if_pos e, if_pos e]
  · rw [if_neg e, if_neg e]; exact ((h.1 j hj).2.2.1 e).2
/-- an entry put in place -/
def zP (C : Nat → Nat → Int32) (j : Nat) (k v lf en : Int32) : Nat → Nat → Int32 := va_up (va_up (va_up (va_up (va_up C 0 (upd (C 0) j k)) 1 (upd (C 1) j v)) 2 (upd (C 2) j lf)) 3 (upd (C 3) j en)) 4 (upd (C 4) j 0)
theorem r_zP {s : Nat} {C T : Nat → Nat → Int32} (h : rRow s C T) {j : Nat} {k v lf en : Int32} : rRow s (zP C j k v lf en) (zFe T (16 * s + j) k v lf en) := by
  intro r hr i hi
  have hu : ∀ (f g : Nat → Int32) (x : Int32), f i = g (16 * s + i) → upd f j x i = upd g (16 * s + j) x (16 * s + i) := by
    intro f g x hfg
    by_cases e : i = j
    · subst e; rw [r_us, r_us]
    · rw [r_un _ _ e, r_un _ _ (by omega)]; exact hfg
  rcases (show r = 0 ∨ r = 1 ∨ r = 2 ∨ r = 3 ∨ r = 4 by omega) with rfl | rfl | rfl | rfl | rfl
  · exact hu _ _ _ (h 0 (by decide) i hi)
  · exact hu _ _ _ (h 1 (by decide) i hi)
  · exact hu _ _ _ (h 2 (by decide) i hi)
  · exact hu _ _ _ (h 3 (by decide) i hi)
  · exact hu _ _ _ (h 4 (by decide) i hi)
theorem rRow.sz {s : Nat} {C R : Nat → Nat → Int32} (h : rRow s C R) (f : Nat → Int32) : rRow s (va_up C 5 f) R := by
  intro r hr i hi
  rw [va_up_ne _ _ (by omega)]
  exact h r hr i hi
theorem zP_0 {C : Nat → Nat → Int32} {j : Nat} {k v lf en : Int32} : zP C j k v lf en 0 = upd (C 0) j k := rfl
theorem zP_5 {C : Nat → Nat → Int32} {j : Nat} {k v lf en : Int32} : zP C j k v lf en 5 = C 5 := rfl
theorem zFe_o {T : Nat → Nat → Int32} {i : Nat} {k v lf en : Int32} {r : Nat} (h : r < 6 ∨ 10 < r) : zFe T i k v lf en r = T r := by
  unfold zFe
  rw [va_up_ne _ _ (by omega), va_up_ne _ _ (by omega), va_up_ne _ _ (by omega), va_up_ne _ _ (by omega), va_up_ne _ _ (by omega)]
theorem zFe_q {T : Nat → Nat → Int32} {i q : Nat} {k v lf en : Int32} {r : Nat} (h : q ≠ i) : zFe T i k v lf en r q = T r q := by
  by_cases hr : r < 6 ∨ 10 < r
  · rw [zFe_o hr]
  · rcases (show r = 6 ∨ r = 7 ∨ r = 8 ∨ r = 9 ∨ r = 10 by omega) with rfl | rfl | rfl | rfl | rfl
    · exact r_un _ _ h
    · exact r_un _ _ h
    · exact r_un _ _ h
    · exact r_un _ _ h
    · exact r_un _ _ h
/-- what a fetch is on both sides -/
theorem r_fetch {I X W F O : Nat → Int32} {Z C R : Nat → Nat → Int32} {s j : Nat} (hs : s < 4) (hj : j < 16) (hC : rC s C R) (hZ : rZ Z W I R) (hX : X 3 = I 8) :
    rC s (fX4_fetch X Z W C F O (nI j)).1 (fX5_fetch I R (nI s) (nI j)).2 ∧ (fX4_fetch X Z W C F O (nI j)).2 = va_up O 3 (O 3 + 1) ∧ (fX5_fetch I R (nI s) (nI j)).1 = va_up (va_up I 18 (I 18 + 1)) 20 (I 20 + 1) ∧
    (∀ r, r < 6 ∨ 10 < r → (fX5_fetch I R (nI s) (nI j)).2 r = R r) ∧ (∀ r q, q < 16 * s ∨ 16 * s + 16 ≤ q → (fX5_fetch I R (nI s) (nI j)).2 r q = R r q) ∧ ¬ (fX5_fetch I R (nI s) (nI j)).2 6 (16 * s + j) = 3 := by
  obtain ⟨h1, h2, h3⟩ := hC
  have hk3 : ¬ R 1 j = 3 := by
    rcases (hZ.1 j hj).1 with e | e | e <;> rw [e] <;> decide
  rw [z_mf, r_ix hs hj, r_cl hj]
  unfold fX4_fetch fX4_fetch_s1
  rw [r_kind hZ hj, r_value hZ hj, r_life hZ hj, hX]
  generalize (if R 1 j = 2 then (-3) else R 2 j) = v
  generalize (if R 1 j = 2 then I 3 else R 3 j) = lf
  have main : ∃ T, zT6 I R (nI s) (nI j) = T ∧ rC s (fX0_put C (nI j) (R 1 j) v lf (I 8)) (zFe T (16 * s + j) (R 1 j) v lf (I 8 + lf)) ∧ (∀ r, r < 6 ∨ 10 < r → T r = R r) ∧ ∀ r q, q < 16 * s ∨ 16 * s + 16 ≤ q → T r q = R r q := by
    have hput : fX0_put C (nI j) (R 1 j) v lf (I 8) = if C 0 j = 3 then (if C 5 0 < 6 then va_up (zP C j (R 1 j) v lf (I 8 + lf)) 5 (fun _ => C 5 0 + 1) else va_up (zP (fX0_drop C (fX0_firstToEnd C)).2 j (R 1 j) v lf (I 8 + lf)) 5 (fun _ => (fX0_drop C (fX0_firstToEnd C)).2 5 0 + 1)) else zP C j (R 1 j) v lf (I 8 + lf) := by
      unfold fX0_put fX0_put_s5
      rw [if_neg (r_n0 hj), if_pos (r_n16 hj), r_cl hj]
      rfl
    rw [hput]
    unfold zT6
    rw [r_ix hs hj, ← h1.k hj, r_size hs h1]
    by_cases e : C 0 j = 3
    · rw [if_pos e, if_pos e]
      by_cases c : cnn (C 0) 16 = 6
      · have e6 : ¬ C 5 0 < 6 := by rw [h2, c]; decide
        rw [if_neg e6, if_pos (by rw [c]; rfl)]
        rcases r_mr (I := I) hs h1 16 0 (-3) (-3) rfl (Or.inl ⟨rfl, rfl, fun b hb => absurd hb (by omega)⟩) with g | ⟨b, hb, g1, g2, g3⟩
        · rw [cnn_3 g] at c; omega
        · have hd : (fX0_drop C (fX0_firstToEnd C)).2 = va_up (va_up C 0 (upd (C 0) b 3)) 5 (fun _ => C 5 0 - 1) := by
            show (fX0_drop C (fX0_firstToEnd_L5 C 16 0 (-3))).2 = _
            rw [g2]
            unfold fX0_drop fX0_has
            rw [if_neg (r_n0 hb), if_neg (r_n16' hb), r_cl hb, if_neg g1, if_neg (by decide)]
          rw [hd]
          have hrow : rRow s (va_up (va_up C 0 (upd (C 0) b 3)) 5 (fun _ => C 5 0 - 1)) (va_up R 6 (upd (R 6) (16 * s + b) 3)) := by
            refine rRow.sz ?_ _
            intro r hr i hi
            by_cases r0 : r = 0
            · subst r0
              show upd (C 0) b 3 i = upd (R 6) (16 * s + b) 3 (16 * s + i)
              by_cases q : i = b
              · subst q; rw [r_us, r_us]
              · rw [r_un _ _ q, r_un _ _ (by omega)]; exact h1.k hi
            · rw [va_up_ne _ _ r0, va_up_ne _ _ (by omega)]; exact h1 r hr i hi
          have hbj : j ≠ b := fun q => g1 (by rw [← q]; exact e)
          have c1 : cnn (upd (C 0) b 3) 16 + 1 = cnn (C 0) 16 := cnn_drop hb g1
          have c2 : cnn (upd (upd (C 0) b 3) j (R 1 j)) 16 = cnn (upd (C 0) b 3) 16 + 1 := cnn_put hj (by rw [r_un _ _ hbj]; exact e) hk3
          refine ⟨_, g3, ⟨(r_zP hrow).sz _, ?_, ?_⟩, ?_, ?_⟩
          · show C 5 0 - 1 + 1 = nI (cnn (upd (upd (C 0) b 3) j (R 1 j)) 16)
            rw [c2, c1, h2, Int32.sub_add_cancel]
          · show cnn (upd (upd (C 0) b 3) j (R 1 j)) 16 ≤ 6
            omega
          · intro r hr; rw [va_up_ne _ _ (by omega)]
          · intro r q hq
            by_cases r6 : r = 6
            · subst r6
              show upd (R 6) (16 * s + b) 3 q = R 6 q
              rw [r_un _ _ (by omega)]
            · rw [va_up_ne _ _ r6]
      · have e6 : C 5 0 < 6 := by rw [h2]; exact nI_lt (b := 6) (by omega) (by decide)
        have n6 : ¬ nI (cnn (C 0) 16) = 6 := fun q => c ((nI_eq (by omega) (by decide)).mp q)
        rw [if_pos e6, if_neg n6]
        have c2 : cnn (upd (C 0) j (R 1 j)) 16 = cnn (C 0) 16 + 1 := cnn_put hj e hk3
        refine ⟨_, rfl, ⟨(r_zP h1).sz _, ?_, ?_⟩, fun _ _ => rfl, fun _ _ _ => rfl⟩
        · show C 5 0 + 1 = nI (cnn (upd (C 0) j (R 1 j)) 16)
          rw [c2, h2, nI_1]
        · show cnn (upd (C 0) j (R 1 j)) 16 ≤ 6
          omega
    · rw [if_neg e, if_neg e]
      have c2 : cnn (upd (C 0) j (R 1 j)) 16 = cnn (C 0) 16 := cnn_same hj e hk3
      refine ⟨_, rfl, ⟨r_zP h1, ?_, ?_⟩, fun _ _ => rfl, fun _ _ _ => rfl⟩
      · rw [zP_0, zP_5, c2]; exact h2
      · rw [zP_0, c2]; exact h3
  obtain ⟨T, hT, m1, m2, m3⟩ := main
  rw [hT]
  refine ⟨m1, rfl, rfl, fun r hr => (zFe_o hr).trans (m2 r hr), fun r q hq => (zFe_q (by omega)).trans (m3 r q hq), ?_⟩
  show ¬ upd (T 6) (16 * s + j) (R 1 j) (16 * s + j) = 3
  rw [r_us]
  exact hk3
/-- the kinds of entries; nothing has the value -3 -/
def zwD (R : Nat → Nat → Int32) : Prop := ∀ i, i < 64 → ((R 6) i = 0 ∨ (R 6) i = 1 ∨ (R 6) i = 2 ∨ (R 6) i = 3) ∧ ((R 6) i = 2 → (R 7) i = (-3))
def zwE (R : Nat → Nat → Int32) : Prop := zwC R ∧ zwD R
theorem z_fD {I : Nat → Int32} {R : Nat → Nat → Int32} {x y : Int32} (hn : vp_in y 16) (hZ : zwZ R) (hC : zwD R) : zwD (fX5_fetch I R x y).2 := by
  rw [z_mf]
  intro i hi
  show (upd (zT6 I R x y 6) (16 * x + y).toNatClampNeg ((R 1) y.toNatClampNeg) i = 0 ∨ upd (zT6 I R x y 6) (16 * x + y).toNatClampNeg ((R 1) y.toNatClampNeg) i = 1 ∨ upd (zT6 I R x y 6) (16 * x + y).toNatClampNeg ((R 1) y.toNatClampNeg) i = 2 ∨ upd (zT6 I R x y 6) (16 * x + y).toNatClampNeg ((R 1) y.toNatClampNeg) i = 3) ∧
    (upd (zT6 I R x y 6) (16 * x + y).toNatClampNeg ((R 1) y.toNatClampNeg) i = 2 → upd (zT6 I R x y 7) (16 * x + y).toNatClampNeg (if (R 1) y.toNatClampNeg = 2 then (-3) else (R 2) y.toNatClampNeg) i = (-3))
  by_cases e : i = (16 * x + y).toNatClampNeg
  · subst e
    rw [r_us, r_us]
    refine ⟨?_, fun q => if_pos q⟩
    rcases (hZ _ (z_nat hn)).1 with q | q | q
    · exact Or.inl q
    · exact Or.inr (Or.inl q)
    · exact Or.inr (Or.inr (Or.inl q))
  · rw [r_un _ _ e, r_un _ _ e, z_T6.1 7 (by decide)]
    rcases z_T6.2 i with q | q
    · rw [q]; exact hC i hi
    · rw [q]; exact ⟨Or.inr (Or.inr (Or.inr rfl)), fun u => absurd u (by decide)⟩
theorem z_lkD {I : Nat → Int32} {R : Nat → Nat → Int32} {x y : Int32} (hn : vp_in y 16) (hZ : zwZ R) (hC : zwD R) : zwD (fX5_looksUp I R x y).2.2 := by
  have hf : zwD (fX5_fetch (va_up I 17 ((I 17) + 1)) R x y).2 := z_fD hn hZ hC
  unfold fX5_looksUp
  split
  · split
    · split <;> exact hC
    · exact hf
  · split
    · split
      · split
        · split <;> exact hC
        · split <;> exact hC
      · exact hf
    · exact hC
theorem rZ.mono {Z : Nat → Nat → Int32} {W I I' : Nat → Int32} {R R' : Nat → Nat → Int32} (h : rZ Z W I R) (h3 : I' 3 = I 3) (h4 : I' 4 = I 4) (r1 : R' 1 = R 1) (r2 : R' 2 = R 2) (r3 : R' 3 = R 3) : rZ Z W I' R' := by
  unfold rZ
  rw [h3, h4, r1, r2, r3]
  exact h
theorem rZ.zw {Z : Nat → Nat → Int32} {W I : Nat → Int32} {R : Nat → Nat → Int32} (h : rZ Z W I R) : zwZ R := fun j hj => ⟨(h.1 j hj).1, (h.1 j hj).2.2.2.2⟩
/-- what a look-up leaves as it is -/
def rF (s : Nat) (I : Nat → Int32) (R : Nat → Nat → Int32) (I' : Nat → Int32) (R' : Nat → Nat → Int32) : Prop := (∀ k, (k < 16 ∨ k = 19 ∨ (21 < k ∧ k < 25)) → I' k = I k) ∧ (∀ r, (r < 6 ∨ 11 < r) → R' r = R r) ∧ ∀ r q, 6 ≤ r → r ≤ 10 → (q < 16 * s ∨ 16 * s + 16 ≤ q) → R' r q = R r q
theorem rF.refl {s : Nat} {I : Nat → Int32} {R : Nat → Nat → Int32} : rF s I R I R := ⟨fun _ _ => rfl, fun _ _ => rfl, fun _ _ _ _ _ => rfl⟩
theorem rF.trans {s : Nat} {I I' I'' : Nat → Int32} {R R' R'' : Nat → Nat → Int32} (h : rF s I R I' R') (g : rF s I' R' I'' R'') : rF s I R I'' R'' :=
  ⟨fun k hk => (g.1 k hk).trans (h.1 k hk), fun r hr => (g.2.1 r hr).trans (h.2.1 r hr), fun r q h6 h10 hq => (g.2.2 r q h6 h10 hq).trans (h.2.2 r q h6 h10 hq)⟩
/-- a query under way: its cache, the zone, the counts since the beginning of the query, the names found fresh -/
def rQ (s a : Nat) (b X W F O I : Nat → Int32) (Z C R : Nat → Nat → Int32) : Prop :=
  rC s C R ∧ rZ Z W I R ∧ zwE R ∧ X 3 = I 8 ∧ (I 17 = b 17 + O 2 ∧ I 18 = b 18 + O 3 ∧ I 20 = b 20 + O 3 ∧ I 21 = b 21 + O 4 ∧ I 16 = (if O 5 = 0 then b 16 else 1) ∧ (b 16 = 0 ∨ b 16 = 1) ∧ (O 5 = 0 ∨ O 5 = 1)) ∧
  ∃ m, m ≤ a ∧ O 1 = nI m ∧ I 25 = nI m ∧ ∀ k, k < m → F k = R 11 k ∧ ∃ j, j < 16 ∧ R 11 k = nI j
theorem r_has {C : Nat → Nat → Int32} {j : Nat} (hj : j < 16) : fX0_has C (nI j) = if C 0 j = 3 then 0 else 1 := by
  unfold fX0_has
  rw [if_neg (r_n0 hj), if_neg (r_n16' hj), r_cl hj]
theorem r_kO {C : Nat → Nat → Int32} {j : Nat} (hj : j < 16) : fX0_kindOf C (nI j) = C 0 j := by
  unfold fX0_kindOf
  rw [r_has hj, r_cl hj]
  by_cases e : C 0 j = 3
  · rw [if_pos e, if_pos rfl, e]
  · rw [if_neg e, if_neg (by decide)]
theorem r_vO {C : Nat → Nat → Int32} {j : Nat} (hj : j < 16) : fX0_valueOf C (nI j) = if C 0 j = 3 then (-3) else C 1 j := by
  unfold fX0_valueOf
  rw [r_has hj, r_cl hj]
  by_cases e : C 0 j = 3
  · rw [if_pos e, if_pos rfl, if_pos e]
  · rw [if_neg e, if_neg (by decide), if_neg e]
theorem r_fr {C : Nat → Nat → Int32} {j : Nat} {x : Int32} (hj : j < 16) : fX0_isFresh C (nI j) x = if C 0 j = 3 then 0 else if C 3 j ≤ x then 0 else 1 := by
  unfold fX0_isFresh
  rw [r_has hj, r_cl hj]
  by_cases e : C 0 j = 3
  · rw [if_pos e, if_pos rfl, if_pos e]
  · rw [if_neg e, if_neg (by decide), if_neg e]
theorem r_st {C : Nat → Nat → Int32} {j : Nat} {x : Int32} (hj : j < 16) : fX0_servesStale C (nI j) x = if C 0 j = 3 then 0 else if 100 ≤ x - C 3 j then 0 else 1 := by
  unfold fX0_servesStale
  rw [r_has hj, r_cl hj]
  by_cases e : C 0 j = 3
  · rw [if_pos e, if_pos rfl, if_pos e]
  · rw [if_neg e, if_neg (by decide), if_neg e]
theorem r_hot {C : Nat → Nat → Int32} {j : Nat} {x : Int32} (hj : j < 16) : fX0_isHot C (nI j) x = if C 0 j = 3 then 0 else if C 4 j < 3 then 0 else if C 2 j < 4 * (C 3 j - x) then 0 else 1 := by
  unfold fX0_isHot
  rw [r_has hj, r_cl hj]
  by_cases e : C 0 j = 3
  · rw [if_pos e, if_pos rfl, if_pos e]
  · rw [if_neg e, if_neg (by decide), if_neg e]
theorem r_hit {C : Nat → Nat → Int32} {j : Nat} (hj : j < 16) (e : ¬ C 0 j = 3) : fX0_countHit C (nI j) = va_up C 4 (upd (C 4) j (C 4 j + 1)) := by
  unfold fX0_countHit
  rw [r_has hj, r_cl hj, if_neg e, if_neg (by decide)]
theorem r_a1 (x y : Int32) : x + y + 1 = x + (y + 1) := Int32.add_assoc x y 1
theorem r_look {s a j : Nat} {b X W F O I : Nat → Int32} {Z C R : Nat → Nat → Int32} (hs : s < 4) (hj : j < 16) (ha : a < 5) (h : rQ s a b X W F O I Z C R) :
    (fX4_lookUp X Z W C F O (nI j)).1 = (fX5_looksUp I R (nI s) (nI j)).1 ∧
    rQ s (a + 1) b X W (fX4_lookUp X Z W C F O (nI j)).2.2.1 (fX4_lookUp X Z W C F O (nI j)).2.2.2 (fX5_looksUp I R (nI s) (nI j)).2.1 Z (fX4_lookUp X Z W C F O (nI j)).2.1 (fX5_looksUp I R (nI s) (nI j)).2.2 ∧
    rF s I R (fX5_looksUp I R (nI s) (nI j)).2.1 (fX5_looksUp I R (nI s) (nI j)).2.2 ∧ (fX4_lookUp X Z W C F O (nI j)).2.2.2 4 = O 4 := by
  obtain ⟨hC, hZ, hw, hX, ⟨c17, c18, c20, c21, c16, cb, c5⟩, m, hm, o1, i25, hf⟩ := h
  have wI : ∀ k, (k < 16 ∨ k = 19 ∨ (20 < k ∧ k < 25)) → (fX5_looksUp I R (nI s) (nI j)).2.1 k = I k := fun k hk => z_lkI hk
  have wR : ∀ r, (r < 6 ∨ 11 < r) → (fX5_looksUp I R (nI s) (nI j)).2.2 r = R r := fun r hr => z_lkR hr
  have wC : zwE (fX5_looksUp I R (nI s) (nI j)).2.2 := ⟨z_lkC (z_nIr hs (by decide)) (z_nIr hj (by decide)) hZ.zw hw.1, z_lkD (z_nIr hj (by decide)) hZ.zw hw.2⟩
  have wZ : rZ Z W (fX5_looksUp I R (nI s) (nI j)).2.1 (fX5_looksUp I R (nI s) (nI j)).2.2 := hZ.mono (wI 3 (by decide)) (wI 4 (by decide)) (wR 1 (by decide)) (wR 2 (by decide)) (wR 3 (by decide))
  have w8 : X 3 = (fX5_looksUp I R (nI s) (nI j)).2.1 8 := hX.trans (wI 8 (by decide)).symm
  have w21 : (fX5_looksUp I R (nI s) (nI j)).2.1 21 = b 21 + O 4 := (wI 21 (by decide)).trans c21
  have wI' : ∀ k, (k < 16 ∨ k = 19 ∨ (21 < k ∧ k < 25)) → (fX5_looksUp I R (nI s) (nI j)).2.1 k = I k := fun k hk => wI k (by omega)
  have WW := And.intro wI' (And.intro wR (And.intro wC (And.intro wZ (And.intro w8 w21))))
  clear wI wI' wR wC wZ w8 w21
  have b16 : I 16 = 0 ∨ I 16 = 1 := by
    rw [c16]
    split
    · exact cb
    · exact Or.inr rfl
  have hk := hC.1.k hj
  have he := hC.1.e hj
  -- a fetch
  have fet : ¬ I 4 = 0 → fX4_lookUp X Z W C F O (nI j) = (1, (fX4_fetch X Z W C F (va_up O 2 (O 2 + 1)) (nI j)).1, F, (fX4_fetch X Z W C F (va_up O 2 (O 2 + 1)) (nI j)).2) →
      fX5_looksUp I R (nI s) (nI j) = (1, (fX5_fetch (va_up I 17 (I 17 + 1)) R (nI s) (nI j)).1, (fX5_fetch (va_up I 17 (I 17 + 1)) R (nI s) (nI j)).2) →
      (fX4_lookUp X Z W C F O (nI j)).1 = (fX5_looksUp I R (nI s) (nI j)).1 ∧
      rQ s (a + 1) b X W (fX4_lookUp X Z W C F O (nI j)).2.2.1 (fX4_lookUp X Z W C F O (nI j)).2.2.2 (fX5_looksUp I R (nI s) (nI j)).2.1 Z (fX4_lookUp X Z W C F O (nI j)).2.1 (fX5_looksUp I R (nI s) (nI j)).2.2 ∧
      rF s I R (fX5_looksUp I R (nI s) (nI j)).2.1 (fX5_looksUp I R (nI s) (nI j)).2.2 ∧ (fX4_lookUp X Z W C F O (nI j)).2.2.2 4 = O 4 := by
    intro h4 e1 e2
    have hZ1 : rZ Z W (va_up I 17 (I 17 + 1)) R := hZ.mono rfl rfl rfl rfl rfl
    obtain ⟨f1, f2, f3, f4, f5, f6⟩ := r_fetch (O := va_up O 2 (O 2 + 1)) (F := F) (X := X) hs hj hC hZ1 hX
    rw [e2, f3] at WW
    obtain ⟨wI', wR, wC, wZ, w8, w21⟩ := WW
    rw [e1, e2, f2, f3]
    refine ⟨rfl, ⟨f1, wZ, wC, w8, ⟨?_, ?_, ?_, w21, c16, cb, c5⟩, m, by omega, o1, i25, fun k hk => ?_⟩, ⟨wI', wR, fun r q _ _ hq => f5 r q hq⟩, rfl⟩
    · show I 17 + 1 = b 17 + (O 2 + 1)
      rw [c17, r_a1]
    · show I 18 + 1 = b 18 + (O 3 + 1)
      rw [c18, r_a1]
    · show I 20 + 1 = b 20 + (O 3 + 1)
      rw [c20, r_a1]
    · show F k = (fX5_fetch (va_up I 17 (I 17 + 1)) R (nI s) (nI j)).2 11 k ∧ _
      rw [f4 11 (by decide)]
      exact hf k hk
  -- no answer
  have non : fX4_lookUp X Z W C F O (nI j) = (0, C, F, va_up O 2 (O 2 + 1)) → fX5_looksUp I R (nI s) (nI j) = (0, va_up (va_up I 16 (I 16)) 17 (I 17 + 1), R) →
      (fX4_lookUp X Z W C F O (nI j)).1 = (fX5_looksUp I R (nI s) (nI j)).1 ∧
      rQ s (a + 1) b X W (fX4_lookUp X Z W C F O (nI j)).2.2.1 (fX4_lookUp X Z W C F O (nI j)).2.2.2 (fX5_looksUp I R (nI s) (nI j)).2.1 Z (fX4_lookUp X Z W C F O (nI j)).2.1 (fX5_looksUp I R (nI s) (nI j)).2.2 ∧
      rF s I R (fX5_looksUp I R (nI s) (nI j)).2.1 (fX5_looksUp I R (nI s) (nI j)).2.2 ∧ (fX4_lookUp X Z W C F O (nI j)).2.2.2 4 = O 4 := by
    intro e1 e2
    rw [e2] at WW
    obtain ⟨wI', wR, wC, wZ, w8, w21⟩ := WW
    rw [e1, e2]
    refine ⟨rfl, ⟨hC, wZ, hw, hX, ⟨?_, c18, c20, c21, c16, cb, c5⟩, m, by omega, o1, i25, hf⟩, ⟨wI', wR, fun _ _ _ _ _ => rfl⟩, rfl⟩
    show I 17 + 1 = b 17 + (O 2 + 1)
    rw [c17, r_a1]
  have i16 : ∀ x : Nat → Nat → Int32, (if I 16 = 0 then ((0 : Int32), va_up (va_up I 16 0) 17 (I 17 + 1), x) else (0, va_up (va_up I 16 1) 17 (I 17 + 1), x)) = (0, va_up (va_up I 16 (I 16)) 17 (I 17 + 1), x) := by
    intro x
    rcases b16 with e | e
    · rw [if_pos e, e]
    · rw [if_neg (by rw [e]; decide), e]
  by_cases e : C 0 j = 3
  · have e' : R 6 (16 * s + j) = 3 := hk ▸ e
    by_cases h4 : I 4 = 0
    · refine non ?_ ?_
      · unfold fX4_lookUp
        rw [r_fr hj, if_pos e, if_pos rfl, if_pos (hZ.2.2.1.trans h4), r_st hj, if_pos e, if_pos rfl]
      · unfold fX5_looksUp
        rw [r_ix hs hj, if_pos e', if_pos h4, i16]
    · refine fet h4 ?_ ?_
      · unfold fX4_lookUp
        rw [r_fr hj, if_pos e, if_pos rfl, if_neg (fun q => h4 (hZ.2.2.1.symm.trans q))]
        rfl
      · unfold fX5_looksUp
        rw [r_ix hs hj, if_pos e', if_neg h4]
        rfl
  · have e' : ¬ R 6 (16 * s + j) = 3 := hk ▸ e
    by_cases hn : C 3 j ≤ X 3
    · have hn' : R 9 (16 * s + j) ≤ I 8 := by rw [← he, ← hX]; exact hn
      by_cases h4 : I 4 = 0
      · by_cases h1 : 100 ≤ X 3 - C 3 j
        · have h1' : 100 ≤ I 8 - R 9 (16 * s + j) := by rw [← he, ← hX]; exact h1
          refine non ?_ ?_
          · unfold fX4_lookUp
            rw [r_fr hj, if_neg e, if_pos hn, if_pos rfl, if_pos (hZ.2.2.1.trans h4), r_st hj, if_neg e, if_pos h1, if_pos rfl]
          · unfold fX5_looksUp
            rw [r_ix hs hj, if_neg e', if_pos hn', if_pos h4, if_pos h1', i16]
        · have h1' : ¬ 100 ≤ I 8 - R 9 (16 * s + j) := by rw [← he, ← hX]; exact h1
          have e1 : fX4_lookUp X Z W C F O (nI j) = (1, C, F, va_up (va_up O 2 (O 2 + 1)) 5 1) := by
            unfold fX4_lookUp
            rw [r_fr hj, if_neg e, if_pos hn, if_pos rfl, if_pos (hZ.2.2.1.trans h4), r_st hj, if_neg e, if_neg h1, if_neg (by decide)]
          have e2 : fX5_looksUp I R (nI s) (nI j) = (1, va_up (va_up I 16 1) 17 (I 17 + 1), R) := by
            unfold fX5_looksUp
            rw [r_ix hs hj, if_neg e', if_pos hn', if_pos h4, if_neg h1', ite_self]
          rw [e2] at WW
          obtain ⟨wI', wR, wC, wZ, w8, w21⟩ := WW
          rw [e1, e2]
          refine ⟨rfl, ⟨hC, wZ, hw, hX, ⟨?_, c18, c20, c21, ?_, cb, Or.inr rfl⟩, m, by omega, o1, i25, hf⟩, ⟨wI', wR, fun _ _ _ _ _ => rfl⟩, rfl⟩
          · show I 17 + 1 = b 17 + (O 2 + 1)
            rw [c17, r_a1]
          · rfl
      · refine fet h4 ?_ ?_
        · unfold fX4_lookUp
          rw [r_fr hj, if_neg e, if_pos hn, if_pos rfl, if_neg (fun q => h4 (hZ.2.2.1.symm.trans q))]
          rfl
        · unfold fX5_looksUp
          rw [r_ix hs hj, if_neg e', if_pos hn', if_neg h4]
          rfl
    · have hn' : ¬ R 9 (16 * s + j) ≤ I 8 := by rw [← he, ← hX]; exact hn
      have n5 : ¬ (5 : Int32) ≤ O 1 := by rw [o1]; exact nI_ge (b := 5) (by omega) (by decide)
      have e1 : fX4_lookUp X Z W C F O (nI j) = (1, va_up C 4 (upd (C 4) j (C 4 j + 1)), upd F m (nI j), va_up (va_up O 2 (O 2 + 1)) 1 (O 1 + 1)) := by
        unfold fX4_lookUp fX4_lookUp_s5 fX4_lookUp_s6 fX1_noteFresh
        rw [r_fr hj, if_neg e, if_neg hn, if_neg (by decide), r_hit hj e, if_neg (show ¬ 5 ≤ va_up O 2 (O 2 + 1) 1 from n5)]
        show (1, va_up C 4 (upd (C 4) j (C 4 j + 1)), upd F (O 1).toNatClampNeg (nI j), va_up (va_up O 2 (O 2 + 1)) 1 (O 1 + 1)) = _
        rw [o1, nI_clamp (by omega)]
      have e2 : fX5_looksUp I R (nI s) (nI j) = (1, va_up (va_up I 17 (I 17 + 1)) 25 (I 25 + 1), va_up (va_up R 10 (upd (R 10) (16 * s + j) (R 10 (16 * s + j) + 1))) 11 (upd (R 11) m (nI j))) := by
        unfold fX5_looksUp
        rw [r_ix hs hj, if_neg e', if_neg hn', i25, nI_clamp (by omega)]
      rw [e2] at WW
      obtain ⟨wI', wR, wC, wZ, w8, w21⟩ := WW
      rw [e1, e2]
      refine ⟨rfl, ⟨⟨?_, hC.2.1, hC.2.2⟩, wZ, wC, hX, ⟨?_, c18, c20, c21, c16, cb, c5⟩, m + 1, by omega, ?_, ?_, ?_⟩, ⟨wI', wR, ?_⟩, rfl⟩
      · intro r hr i hi
        rcases (show r = 0 ∨ r = 1 ∨ r = 2 ∨ r = 3 ∨ r = 4 by omega) with rfl | rfl | rfl | rfl | rfl
        · exact hC.1 0 (by decide) i hi
        · exact hC.1 1 (by decide) i hi
        · exact hC.1 2 (by decide) i hi
        · exact hC.1 3 (by decide) i hi
        · show upd (C 4) j (C 4 j + 1) i = upd (R 10) (16 * s + j) (R 10 (16 * s + j) + 1) (16 * s + i)
          by_cases q : i = j
          · subst q; rw [r_us, r_us, hC.1.h hi]
          · rw [r_un _ _ q, r_un _ _ (by omega)]; exact hC.1.h hi
      · show I 17 + 1 = b 17 + (O 2 + 1)
        rw [c17, r_a1]
      · show O 1 + 1 = nI (m + 1)
        rw [o1, nI_1]
      · show I 25 + 1 = nI (m + 1)
        rw [i25, nI_1]
      · intro k hk'
        show upd F m (nI j) k = upd (R 11) m (nI j) k ∧ ∃ j', j' < 16 ∧ upd (R 11) m (nI j) k = nI j'
        by_cases q : k = m
        · subst q; rw [r_us, r_us]; exact ⟨rfl, j, hj, rfl⟩
        · rw [r_un _ _ q, r_un _ _ q]; exact hf k (by omega)
      · intro r q h6 h10 hq
        by_cases r10 : r = 10
        · subst r10
          show upd (R 10) (16 * s + j) (R 10 (16 * s + j) + 1) q = R 10 q
          rw [r_un _ _ (by omega)]
        · show va_up (va_up R 10 (upd (R 10) (16 * s + j) (R 10 (16 * s + j) + 1))) 11 (upd (R 11) m (nI j)) r q = R r q
          rw [va_up_ne _ _ (by omega), va_up_ne _ _ r10]
theorem rQ.mono {s a a' : Nat} {b X W F O I : Nat → Int32} {Z C R : Nat → Nat → Int32} (h : rQ s a b X W F O I Z C R) (ha : a ≤ a') : rQ s a' b X W F O I Z C R := by
  obtain ⟨h1, h2, h3, h4, h5, m, hm, h6⟩ := h
  exact ⟨h1, h2, h3, h4, h5, m, by omega, h6⟩
theorem r_vp {x : Int32} {N : Nat} (h : vp_in x N) : ∃ j, j < N ∧ x = nI j := by
  obtain ⟨j, hj, rfl⟩ := nI_of (fun q => h (Or.inl q))
  refine ⟨j, ?_, rfl⟩
  have := z_nat h
  rw [nI_clamp hj] at this
  exact this
theorem r_resL {s : Nat} {b X W F O I : Nat → Int32} {Z C R : Nat → Nat → Int32} {x1 x2 : Int32} (hs : s < 4) : ∀ (n a j : Nat) (C1 : Nat → Nat → Int32) (F1 O1 I1 : Nat → Int32) (R1 : Nat → Nat → Int32), a + n = 5 → j < 16 → rQ s a b X W F1 O1 I1 Z C1 R1 →
    (fX4_resolve_L10 X Z W C F O x1 n a (nI j) C1 F1 O1).1 = (fX5_resolve_L5 I R (nI s) x2 n a (nI j) I1 R1).1 ∧
    rQ s 5 b X W (fX4_resolve_L10 X Z W C F O x1 n a (nI j) C1 F1 O1).2.2.1 (fX4_resolve_L10 X Z W C F O x1 n a (nI j) C1 F1 O1).2.2.2 (fX5_resolve_L5 I R (nI s) x2 n a (nI j) I1 R1).2.1 Z (fX4_resolve_L10 X Z W C F O x1 n a (nI j) C1 F1 O1).2.1 (fX5_resolve_L5 I R (nI s) x2 n a (nI j) I1 R1).2.2 ∧
    rF s I1 R1 (fX5_resolve_L5 I R (nI s) x2 n a (nI j) I1 R1).2.1 (fX5_resolve_L5 I R (nI s) x2 n a (nI j) I1 R1).2.2 ∧ (fX4_resolve_L10 X Z W C F O x1 n a (nI j) C1 F1 O1).2.2.2 4 = O1 4
  | 0, a, j, C1, F1, O1, I1, R1, ha, hj, h => ⟨rfl, h.mono (by omega), rF.refl, rfl⟩
  | n + 1, a, j, C1, F1, O1, I1, R1, ha, hj, h => by
    obtain ⟨l1, l2, l3, l4⟩ := r_look hs hj (by omega) h
    rw [fX4_resolve_L10, fX5_resolve_L5]
    generalize fX4_lookUp X Z W C1 F1 O1 (nI j) = o at *
    generalize fX5_looksUp I1 R1 (nI s) (nI j) = o' at *
    have hk := l2.1.1.k hj
    have hv := l2.1.1.v hj
    by_cases q : o.1 = 0
    · have q' : o'.1 = 0 := by rw [← l1]; exact q
      rw [if_pos q, if_pos q']
      exact ⟨rfl, l2.mono (by omega), l3, l4⟩
    · have q' : ¬ o'.1 = 0 := by rw [← l1]; exact q
      rw [if_neg q, if_neg q', r_kO hj, r_ix hs hj, ← hk, r_vO hj]
      by_cases k1 : o.2.1 0 j = 1
      · have k1' : o'.2.2 6 (16 * s + j) = 1 := by rw [← hk]; exact k1
        obtain ⟨j', hj', ej⟩ := r_vp (l2.2.2.1.1 (16 * s + j) (by omega) k1')
        rw [if_pos k1, if_pos k1, if_neg (by rw [k1]; decide), hv, ej]
        obtain ⟨g1, g2, g3, g4⟩ := r_resL (b := b) (X := X) (W := W) (F := F) (O := O) (I := I) (Z := Z) (C := C) (R := R) (x1 := x1) (x2 := x2) hs n (a + 1) j' _ _ _ _ _ (by omega) hj' l2
        exact ⟨g1, g2, l3.trans g3, g4.trans l4⟩
      · rw [if_neg k1, if_neg k1]
        by_cases k0 : o.2.1 0 j = 0
        · rw [if_pos k0, if_pos k0, if_neg (by rw [k0]; decide), hv]
          exact ⟨rfl, l2.mono (by omega), l3, l4⟩
        · rw [if_neg k0, if_neg k0]
          exact ⟨rfl, l2.mono (by omega), l3, l4⟩
theorem r_hotL {s m : Nat} {b X W F O I : Nat → Int32} {Z C R : Nat → Nat → Int32} (hs : s < 4) (hm : m ≤ 5) (hfr : ∀ k, k < m → F k = R 11 k ∧ ∃ j, j < 16 ∧ R 11 k = nI j) (h4 : ¬ I 4 = 0) : ∀ (n a : Nat) (C1 : Nat → Nat → Int32) (O1 I1 : Nat → Int32) (R1 : Nat → Nat → Int32), a + n = m → O1 1 = nI m → rQ s 5 b X W F O1 I1 Z C1 R1 → R1 11 = R 11 → rF s I R I1 R1 →
    rQ s 5 b X W F (fX4_fetchHotAnew_L19 X Z W C F O n a C1 O1).2 (fX5_fetchHot_L2 I R (nI s) n a I1 R1).1 Z (fX4_fetchHotAnew_L19 X Z W C F O n a C1 O1).1 (fX5_fetchHot_L2 I R (nI s) n a I1 R1).2 ∧ rF s I R (fX5_fetchHot_L2 I R (nI s) n a I1 R1).1 (fX5_fetchHot_L2 I R (nI s) n a I1 R1).2
  | 0, a, C1, O1, I1, R1, ha, hO, h, h11, hF => ⟨h, hF⟩
  | n + 1, a, C1, O1, I1, R1, ha, hO, h, h11, hF => by
    rw [fX4_fetchHotAnew_L19, fX5_fetchHot_L2]
    obtain ⟨e1, j, hj, e2⟩ := hfr a (by omega)
    have e3 : fX1_freshNameAt F O1 (nI a) = nI j := by
      unfold fX1_freshNameAt
      rw [if_neg (nI_pos (by omega)), hO, if_neg (nI_ge (by omega) (by omega)), if_pos (show nI a < 5 from nI_lt (b := 5) (by omega) (by decide)), nI_clamp (by omega), e1, e2]
    have h4' : ¬ I1 4 = 0 := by rw [hF.1 4 (by decide)]; exact h4
    rw [e3, if_neg h4', h11, nI_clamp (by omega), e2, r_ix hs hj, r_hot hj, ← h.1.1.k hj, ← h.1.1.h hj, ← h.1.1.l hj, ← h.1.1.e hj, ← h.2.2.2.1]
    by_cases c1 : C1 0 j = 3
    · rw [if_pos c1, if_pos rfl, if_pos c1]
      exact r_hotL hs hm hfr h4 n (a + 1) _ _ _ _ (by omega) hO h h11 hF
    · rw [if_neg c1, if_neg c1]
      by_cases c2 : C1 4 j < 3
      · rw [if_pos c2, if_pos rfl, if_pos c2]
        exact r_hotL hs hm hfr h4 n (a + 1) _ _ _ _ (by omega) hO h h11 hF
      · rw [if_neg c2, if_neg c2]
        by_cases c3 : C1 2 j < 4 * (C1 3 j - X 3)
        · rw [if_pos c3, if_pos rfl, if_pos c3]
          exact r_hotL hs hm hfr h4 n (a + 1) _ _ _ _ (by omega) hO h h11 hF
        · rw [if_neg c3, if_neg (by decide), if_neg c3]
          obtain ⟨hC, hZ, hw, hX, ⟨c17, c18, c20, c21, c16, cb, c5⟩, m', hm', o1, i25, hf⟩ := h
          obtain ⟨f1, f2, f3, f4, f5, f6⟩ := r_fetch (O := O1) (F := F) (X := X) hs hj hC hZ hX
          have fC : zwE (fX5_fetch I1 R1 (nI s) (nI j)).2 := ⟨z_fC (z_nIr hj (by decide)) hZ.zw hw.1, z_fD (z_nIr hj (by decide)) hZ.zw hw.2⟩
          refine r_hotL hs hm hfr h4 n (a + 1) _ _ _ _ (by omega) (by rw [f2]; exact hO) ⟨f1, ?_, fC, ?_, ⟨?_, ?_, ?_, ?_, ?_, cb, ?_⟩, m', hm', ?_, ?_, ?_⟩ ?_ (hF.trans ⟨?_, ?_, ?_⟩)
          · refine hZ.mono ?_ ?_ (f4 1 (by decide)) (f4 2 (by decide)) (f4 3 (by decide))
            · rw [f3]; rfl
            · rw [f3]; rfl
          · rw [f3]; exact hX
          · rw [f2, f3]; exact c17
          · rw [f2, f3]
            show I1 18 + 1 = b 18 + (O1 3 + 1)
            rw [c18, r_a1]
          · rw [f2, f3]
            show I1 20 + 1 = b 20 + (O1 3 + 1)
            rw [c20, r_a1]
          · rw [f2, f3]
            show I1 21 + 1 = b 21 + (O1 4 + 1)
            rw [c21, r_a1]
          · rw [f2, f3]; exact c16
          · rw [f2]; exact c5
          · rw [f2]; exact o1
          · rw [f3]; exact i25
          · rw [f4 11 (by decide)]; exact hf
          · rw [f4 11 (by decide)]; exact h11
          · intro k hk
            rw [f3, va_up_ne _ _ (by omega), va_up_ne _ _ (by omega), va_up_ne _ _ (by omega)]
          · exact fun r hr => f4 r (by omega)
          · exact fun r q _ _ hq => f5 r q hq
theorem r_hot0 {I : Nat → Int32} {R : Nat → Nat → Int32} {x : Int32} (h4 : I 4 = 0) : ∀ n a, fX5_fetchHot_L2 I R x n a I R = (I, R)
  | 0, a => rfl
  | n + 1, a => by rw [fX5_fetchHot_L2, if_pos h4]; exact r_hot0 h4 n (a + 1)
theorem r_hotA {s : Nat} {b X W F O I : Nat → Int32} {Z C R : Nat → Nat → Int32} (hs : s < 4) (h : rQ s 5 b X W F O I Z C R) :
    rQ s 5 b X W F (fX4_fetchHotAnew X Z W C F O).2 (fX5_fetchHot I R (nI s)).1 Z (fX4_fetchHotAnew X Z W C F O).1 (fX5_fetchHot I R (nI s)).2 ∧ rF s I R (fX5_fetchHot I R (nI s)).1 (fX5_fetchHot I R (nI s)).2 := by
  unfold fX4_fetchHotAnew fX5_fetchHot
  by_cases h4 : W 4 = 0
  · rw [if_pos h4, r_hot0 (h.2.1.2.2.1.symm.trans h4)]
    exact ⟨h, rF.refl⟩
  · obtain ⟨m, hm, o1, i25, hf⟩ := h.2.2.2.2.2
    rw [if_neg h4, o1, i25, nI_clamp (by omega)]
    exact r_hotL hs hm hf (fun q => h4 (h.2.1.2.2.1.trans q)) m 0 _ _ _ _ (by omega) o1 h rfl rF.refl
/-! the nearest site -/
def rS (n : Nat) (D : Nat → Nat → Int32) (I : Nat → Int32) (R : Nat → Nat → Int32) : Prop := I 5 = nI n ∧ n ≤ 4 ∧ (∀ i, i < n → D i 0 = nI i ∧ D i 1 = R 4 i ∧ D i 3 = R 5 i ∧ ∃ p, p < 100 ∧ R 4 i = nI p) ∧ ∀ i, R 5 i = 0 ∨ R 5 i = 1
def rdd (c p : Nat) : Nat := if c ≤ p then p - c else c - p
theorem rdd_lt {c p : Nat} (hc : c < 100) (hp : p < 100) : rdd c p < 100 := by
  unfold rdd
  split <;> omega
theorem r_d1 {c p : Nat} (hc : c < 100) (hp : p < 100) : (if 0 ≤ (nI c - nI p) then (nI c - nI p) else 0 - (nI c - nI p)) = nI (rdd c p) := by
  have h : ∀ c, c < 100 → ∀ p, p < 100 → (if 0 ≤ (nI c - nI p) then (nI c - nI p) else 0 - (nI c - nI p)) = nI (rdd c p) := by decide +kernel
  exact h c hc p hp
theorem r_d2 {c p : Nat} (hc : c < 100) (hp : p < 100) : (nI c ≤ nI p → nI p - nI c = nI (rdd c p)) ∧ (¬ nI c ≤ nI p → nI c - nI p = nI (rdd c p)) := by
  have h : ∀ c, c < 100 → ∀ p, p < 100 → (nI c ≤ nI p → nI p - nI c = nI (rdd c p)) ∧ (¬ nI c ≤ nI p → nI c - nI p = nI (rdd c p)) := by decide +kernel
  exact h c hc p hp
theorem r_nrE {n : Nat} {D : Nat → Nat → Int32} {x1 : Int32} : ∀ (m a : Nat) (g : Option Nat), n ≤ a → fX4_nr n D x1 m a g = g
  | 0, _, _, _ => rfl
  | m + 1, a, g, h => (if_neg (show ¬ a < n by omega)).trans (r_nrE m (a + 1) g (by omega))
theorem r_nrD {n m a : Nat} {D : Nat → Nat → Int32} {x1 : Int32} {g : Option Nat} (h : a < n) (z : D a 3 = 0) : fX4_nr n D x1 (m + 1) a g = fX4_nr n D x1 m (a + 1) g := (if_pos h).trans (if_pos z)
theorem r_nrN {n m a : Nat} {D : Nat → Nat → Int32} {x1 : Int32} (h : a < n) (z : ¬ D a 3 = 0) : fX4_nr n D x1 (m + 1) a none = fX4_nr n D x1 m (a + 1) (some a) := (if_pos h).trans (if_neg z)
theorem r_nrS {n m a b : Nat} {D : Nat → Nat → Int32} {x1 : Int32} (h : a < n) (z : ¬ D a 3 = 0) : fX4_nr n D x1 (m + 1) a (some b) = if fX2_distanceTo D b x1 ≤ fX2_distanceTo D a x1 then fX4_nr n D x1 m (a + 1) (some b) else fX4_nr n D x1 m (a + 1) (some a) := (if_pos h).trans (if_neg z)
theorem r_nrL {n c : Nat} {D : Nat → Nat → Int32} {I : Nat → Int32} {R : Nat → Nat → Int32} (h : rS n D I R) (hc : c < 100) : ∀ (k a m : Nat) (g : Option Nat) (g' ls : Int32), a + k = n → k ≤ m →
    ((g = none ∧ g' = (-3) ∧ ls = nI 100) ∨ ∃ b, b < n ∧ g = some b ∧ g' = nI b ∧ fX2_distanceTo D b (nI c) = ls ∧ ∃ d, d < 100 ∧ ls = nI d) →
    (fX4_nr n D (nI c) m a g = none ∧ fX5_nearest_L9 I R (nI c) k a g' ls = (-3)) ∨ ∃ b, b < n ∧ fX4_nr n D (nI c) m a g = some b ∧ fX5_nearest_L9 I R (nI c) k a g' ls = nI b
  | 0, a, m, g, g', ls, ha, hm, hg => by
    rw [r_nrE m a g (by omega), fX5_nearest_L9]
    rcases hg with ⟨h1, h2, _⟩ | ⟨b, hb, h1, h2, _⟩
    · exact Or.inl ⟨h1, h2⟩
    · exact Or.inr ⟨b, hb, h1, h2⟩
  | k + 1, a, 0, g, g', ls, ha, hm, hg => absurd hm (by omega)
  | k + 1, a, m + 1, g, g', ls, ha, hm, hg => by
    have han : a < n := by omega
    have h4 := h.2.1
    obtain ⟨d0, d1, d3, p, hp, ep⟩ := h.2.2.1 a han
    have dist : fX2_distanceTo D a (nI c) = nI (rdd c p) := by
      unfold fX2_distanceTo
      rw [d1, ep]
      exact r_d1 hc hp
    have e5 : fX5_nearest_L9 I R (nI c) (k + 1) a g' ls = if R 5 a = 0 then fX5_nearest_L9 I R (nI c) k (a + 1) g' ls else if ls ≤ nI (rdd c p) then fX5_nearest_L9 I R (nI c) k (a + 1) g' ls else fX5_nearest_L9 I R (nI c) k (a + 1) (nI a) (nI (rdd c p)) := by
      rw [fX5_nearest_L9, nI_clamp (by omega), ep]
      by_cases q : nI c ≤ nI p
      · rw [if_pos q, (r_d2 hc hp).1 q]
      · rw [if_neg q, (r_d2 hc hp).2 q]
    rw [e5]
    by_cases z : R 5 a = 0
    · rw [if_pos z, r_nrD han (d3.trans z)]
      exact r_nrL h hc k (a + 1) m g g' ls (by omega) (by omega) hg
    · rw [if_neg z]
      have z' : ¬ D a 3 = 0 := by rw [d3]; exact z
      have hl := rdd_lt hc hp
      rcases hg with ⟨rfl, rfl, rfl⟩ | ⟨b, hb, rfl, rfl, hd, d, hd1, hd2⟩
      · rw [r_nrN han z', if_neg (nI_ge (by omega) (by decide))]
        exact r_nrL h hc k (a + 1) m _ _ _ (by omega) (by omega) (Or.inr ⟨a, han, rfl, rfl, dist, _, hl, rfl⟩)
      · rw [r_nrS han z', hd, dist]
        by_cases q : ls ≤ nI (rdd c p)
        · rw [if_pos q, if_pos q]
          exact r_nrL h hc k (a + 1) m _ _ _ (by omega) (by omega) (Or.inr ⟨b, hb, rfl, rfl, hd, d, hd1, hd2⟩)
        · rw [if_neg q, if_neg q]
          exact r_nrL h hc k (a + 1) m _ _ _ (by omega) (by omega) (Or.inr ⟨a, han, rfl, rfl, dist, _, hl, rfl⟩)
theorem r_near {n c : Nat} {D : Nat → Nat → Int32} {I : Nat → Int32} {R : Nat → Nat → Int32} (h : rS n D I R) (hc : c < 100) :
    (fX4_near n D (nI c) = none ∧ fX5_nearest I R (nI c) = (-3)) ∨ ∃ b, b < n ∧ fX4_near n D (nI c) = some b ∧ fX5_nearest I R (nI c) = nI b := by
  unfold fX4_near fX5_nearest
  have h4 := h.2.1
  rw [h.1, nI_clamp (by omega)]
  exact r_nrL h hc n 0 4 none (-3) 100 (by omega) h4 (Or.inl ⟨rfl, rfl, rfl⟩)
