/-! RELATION: the fleets, call by call -/
def rSi (n : Nat) (D : Nat → Nat → Int32) (Gn : Nat → Int32) : Prop := n ≤ 4 ∧ Gn 3 = nI n ∧ ∃ b, b < 2 ^ n ∧ Gn 4 = nI b ∧ ∀ i, i < n → D i 0 = nI i ∧ (∃ q, q < 100 ∧ D i 1 = nI q ∧ Gn (5 + i) = nI q) ∧ D i 3 = nI (b / 2 ^ i % 2)
def rX (n : Nat) (X Gn : Nat → Int32) : Prop := X 2 = nI n ∧ X 3 = Gn 0 ∧ X 5 = Gn 15 ∧ X 8 = Gn 10 ∧ X 9 = Gn 11 ∧ X 10 = Gn 12 ∧ X 11 = Gn 13 ∧ X 12 = Gn 14
def rOO (O Gn : Nat → Int32) : Prop := O 2 = Gn 17 ∧ O 3 = Gn 18 ∧ O 5 = Gn 16 ∧ (Gn 16 = 0 ∨ Gn 16 = 1)
def rTm (T : Nat) (Gn : Nat → Int32) : Prop := ∃ t, t ≤ T ∧ Gn 0 = nI t
def rSl (n : Nat) (Cs : Nat → Nat → Nat → Int32) (Ge Gv Gl Gx Gh : Nat → Int32) : Prop := (∀ i, i < n → rS i (Cs i) Ge Gv Gl Gx Gh) ∧ (∀ k, 6 * n ≤ k → k < 24 → Ge k = 0) ∧ zwV Gv
def rA (T n : Nat) (X : Nat → Int32) (Z : Nat → Nat → Int32) (W : Nat → Int32) (D : Nat → Nat → Int32) (Cs : Nat → Nat → Nat → Int32) (O Gz Gn Ge Gv Gl Gx Gh : Nat → Int32) : Prop :=
  rSi n D Gn ∧ rZn Z W Gz Gn ∧ rX n X Gn ∧ rOO O Gn ∧ rTm T Gn ∧ rSl n Cs Ge Gv Gl Gx Gh
-- the nearest
theorem r_bit : ∀ b, b < 16 → ∀ i, i < 4 → ((nI b >>> (nI i &&& 31)) &&& 1 = (1 : Int32) ↔ ¬ nI (b / 2 ^ i % 2) = 0) ∧ (b / 2 ^ i % 2 = 0 ∨ b / 2 ^ i % 2 = 1) ∧ ((nI b >>> (nI i &&& 31)) &&& 1 = nI (b / 2 ^ i % 2)) := by decide +kernel
theorem r_2n {b n : Nat} (h : b < 2 ^ n) (hn : n ≤ 4) : b < 16 := by
  rcases (show n = 0 ∨ n = 1 ∨ n = 2 ∨ n = 3 ∨ n = 4 by omega) with rfl | rfl | rfl | rfl | rfl
  · have : b < 1 := h; omega
  · have : b < 2 := h; omega
  · have : b < 4 := h; omega
  · have : b < 8 := h; omega
  · exact h
def rdst (p q : Nat) : Nat := if q ≤ p then p - q else q - p
theorem r_far {p q : Nat} (hp : p < 100) (hq : q < 100) : (if 0 ≤ nI p - nI q then nI p - nI q else 0 - (nI p - nI q)) = nI (rdst p q) ∧ (q ≤ p → nI p - nI q = nI (rdst p q)) ∧ (¬ q ≤ p → nI q - nI p = nI (rdst p q)) ∧ rdst p q < 100 := by
  unfold rdst
  by_cases h : q ≤ p
  · rw [if_pos h, pk_sub h, if_pos (nI_pos' (by omega))]
    exact ⟨rfl, fun _ => rfl, fun q => absurd h q, by omega⟩
  · rw [if_neg h, if_neg (Int32.not_le.mpr (pk_sneg (by omega) (by omega)))]
    refine ⟨?_, fun q => absurd q h, fun _ => pk_sub (by omega), by omega⟩
    rw [← pk_sub (show p ≤ q by omega), Int32.zero_sub, Int32.neg_sub]
theorem nr_ge {n : Nat} {D : Nat → Nat → Int32} {x : Int32} {m a : Nat} {g : Option Nat} (h : ¬ a < n) : fX4_nr n D x (m + 1) a g = fX4_nr n D x m (a + 1) g := by
  cases g <;> simp only [fX4_nr, if_neg h]
theorem nr_z {n : Nat} {D : Nat → Nat → Int32} {x : Int32} {m a : Nat} {g : Option Nat} (h : a < n) (h3 : D a 3 = 0) : fX4_nr n D x (m + 1) a g = fX4_nr n D x m (a + 1) g := by
  cases g <;> simp only [fX4_nr, if_pos h, if_pos h3]
theorem nr_none {n : Nat} {D : Nat → Nat → Int32} {x : Int32} {m a : Nat} (h : a < n) (h3 : ¬ D a 3 = 0) : fX4_nr n D x (m + 1) a none = fX4_nr n D x m (a + 1) (some a) := by
  simp only [fX4_nr, if_pos h, if_neg h3]
theorem nr_some {n b : Nat} {D : Nat → Nat → Int32} {x : Int32} {m a : Nat} (h : a < n) (h3 : ¬ D a 3 = 0) : fX4_nr n D x (m + 1) a (some b) = if fX2_distanceTo D b x ≤ fX2_distanceTo D a x then fX4_nr n D x m (a + 1) (some b) else fX4_nr n D x m (a + 1) (some a) := by
  simp only [fX4_nr, if_pos h, if_neg h3]
theorem nr_end {n : Nat} {D : Nat → Nat → Int32} {x : Int32} : ∀ m a g, n ≤ a → fX4_nr n D x m a g = g
  | 0, a, g, _ => rfl
  | m + 1, a, g, h => by
    rw [nr_ge (by omega)]
    exact nr_end m (a + 1) g (by omega)
theorem r_nr {n b p : Nat} {D : Nat → Nat → Int32} {Gn : Nat → Int32} (hn : n ≤ 4) (hp : p < 100) (hb : b < 16) (h4 : Gn 4 = nI b) (hD : ∀ i, i < n → D i 0 = nI i ∧ (∃ q, q < 100 ∧ D i 1 = nI q ∧ Gn (5 + i) = nI q) ∧ D i 3 = nI (b / 2 ^ i % 2)) : ∀ (m k a : Nat) (gc : Option Nat) (gl ls : Int32), a + k = n → k ≤ m →
    ((gc = none ∧ gl = (-3) ∧ ls = 1000) ∨ ∃ c q, c < n ∧ q < 100 ∧ D c 1 = nI q ∧ gc = some c ∧ gl = nI c ∧ ls = nI (rdst p q)) →
    (fX4_nr n D (nI p) m a gc = none ∧ fL_nearest_L10 Gn n (nI p) k a gl ls = (-3)) ∨ ∃ c, c < n ∧ fX4_nr n D (nI p) m a gc = some c ∧ fL_nearest_L10 Gn n (nI p) k a gl ls = nI c
  | m, 0, a, gc, gl, ls, ha, hm, h => by
    rw [nr_end m a gc (by omega), fL_nearest_L10]
    rcases h with ⟨h1, h2, _⟩ | ⟨c, q, h1, _, _, h2, h3, _⟩
    · exact Or.inl ⟨h1, h2⟩
    · exact Or.inr ⟨c, h1, h2, h3⟩
  | 0, k + 1, a, gc, gl, ls, ha, hm, h => absurd hm (by omega)
  | m + 1, k + 1, a, gc, gl, ls, ha, hm, h => by
    obtain ⟨d0, ⟨q, hq, d1, d2⟩, d3⟩ := hD a (by omega)
    obtain ⟨b1, b2, -⟩ := r_bit b hb a (by omega)
    obtain ⟨f1, f2, f3, f4⟩ := r_far hp hq
    have dst : ∀ c q, D c 1 = nI q → q < 100 → fX2_distanceTo D c (nI p) = nI (rdst p q) := fun c q e hq => by
      unfold fX2_distanceTo
      rw [e]
      exact (r_far hp hq).1
    rw [fL_nearest_L10, d2, h4]
    have an : a < n := by omega
    have skip := r_nr hn hp hb h4 hD m k (a + 1) gc gl ls (by omega) (by omega) h
    have take := r_nr hn hp hb h4 hD m k (a + 1) (some a) (nI a) (nI (rdst p q)) (by omega) (by omega) (Or.inr ⟨a, q, by omega, hq, d1, rfl, rfl, rfl⟩)
    by_cases z : nI (b / 2 ^ a % 2) = 0
    · have nz : ¬ (nI b >>> (nI a &&& 31)) &&& 1 = (1 : Int32) := fun u => b1.mp u z
      rw [nr_z an (by rw [d3]; exact z), if_neg nz, if_neg nz]
      split
      · exact skip
      · exact skip
    · have nz : (nI b >>> (nI a &&& 31)) &&& 1 = (1 : Int32) := b1.mpr z
      have z3 : ¬ D a 3 = 0 := by rw [d3]; exact z
      rw [if_pos nz, if_pos nz]
      have law : ∀ P : Int32 → Prop, (∀ far, far = nI (rdst p q) → P (if ls ≤ far then fL_nearest_L10 Gn n (nI p) k (a + 1) gl ls else fL_nearest_L10 Gn n (nI p) k (a + 1) (nI a) far)) → P (if nI q ≤ nI p then (if ls ≤ nI p - nI q then fL_nearest_L10 Gn n (nI p) k (a + 1) gl ls else fL_nearest_L10 Gn n (nI p) k (a + 1) (nI a) (nI p - nI q)) else (if ls ≤ nI q - nI p then fL_nearest_L10 Gn n (nI p) k (a + 1) gl ls else fL_nearest_L10 Gn n (nI p) k (a + 1) (nI a) (nI q - nI p))) := by
        intro P hP
        by_cases u : q ≤ p
        · rw [if_pos (nI_le u (by omega))]
          exact hP _ (f2 u)
        · rw [if_neg (nI_ge (by omega) (by omega))]
          exact hP _ (f3 u)
      rcases h with ⟨rfl, rfl, rfl⟩ | ⟨c, q', hc, hq', e1, rfl, rfl, rfl⟩
      · rw [nr_none an z3]
        refine law (fun v => (_ = none ∧ v = (-3)) ∨ ∃ c, c < n ∧ _ = some c ∧ v = nI c) fun far hf => ?_
        subst hf
        rw [if_neg (show ¬ 1000 ≤ nI (rdst p q) from nI_ge (b := 1000) (by omega) (by decide))]
        exact take
      · rw [nr_some an z3]
        refine law (fun v => (_ = none ∧ v = (-3)) ∨ ∃ c, c < n ∧ _ = some c ∧ v = nI c) fun far hf => ?_
        subst hf
        show ((if fX2_distanceTo D c (nI p) ≤ fX2_distanceTo D a (nI p) then fX4_nr n D (nI p) m (a + 1) (some c) else fX4_nr n D (nI p) m (a + 1) (some a)) = none ∧ _) ∨ ∃ c', c' < n ∧ (if fX2_distanceTo D c (nI p) ≤ fX2_distanceTo D a (nI p) then fX4_nr n D (nI p) m (a + 1) (some c) else fX4_nr n D (nI p) m (a + 1) (some a)) = some c' ∧ _
        rw [dst c q' e1 hq', dst a q d1 hq]
        by_cases u : nI (rdst p q') ≤ nI (rdst p q)
        · rw [if_pos u, if_pos u]; exact skip
        · rw [if_neg u, if_neg u]; exact take
theorem q_near {n p : Nat} {D : Nat → Nat → Int32} {Gn : Nat → Int32} (h : rSi n D Gn) (hp : p < 100) : (fX4_near n D (nI p) = none ∧ fL_nearest Gn n (nI p) = (-3)) ∨ ∃ c, c < n ∧ fX4_near n D (nI p) = some c ∧ fL_nearest Gn n (nI p) = nI c := by
  obtain ⟨hn, h3, b, hb, h4, hD⟩ := h
  exact r_nr hn hp (r_2n hb hn) h4 hD 4 n 0 none (-3) 1000 (by omega) hn (Or.inl ⟨rfl, rfl, rfl⟩)
-- the truth
theorem r_tr {X W Gz Gn : Nat → Int32} {Z : Nat → Nat → Int32} {x y : Int32} (hZ : rZn Z W Gz Gn) : ∀ n a j, j < 16 → fX4_truth_o_L8 X Z W x n a (nI j) = fL_truth_L4 Gz y n a (nI j)
  | 0, a, j, hj => by
    rw [fX4_truth_o_L8, fL_truth_L4]
    split <;> rfl
  | n + 1, a, j, hj => by
    rw [fX4_truth_o_L8, fL_truth_L4, r_kind hj, r_value hj, r_cl hj]
    rcases (hZ.1 j hj).1 with ⟨h1, h2, h3⟩ | ⟨h1, h2, h3⟩ | ⟨h1, h2, h3⟩
    · rw [h2, h3, if_neg (by decide), if_pos rfl, if_pos (Int32.le_of_lt h1), if_neg (fun e => by rw [e] at h1; exact absurd h1 (by decide))]
    · rw [h2, h3, if_pos rfl, if_neg (Int32.not_le.mpr h1)]
      obtain ⟨j', hj', e'⟩ := vp_in_of ((hZ.1 j hj).2.2 h1) (by decide)
      rw [e']
      exact r_tr hZ n (a + 1) j' hj'
    · rw [h2, h1, if_neg (by decide), if_neg (by decide), if_pos (by decide), if_pos rfl]
theorem q_truth {X W Gz Gn : Nat → Int32} {Z : Nat → Nat → Int32} {j : Nat} (hZ : rZn Z W Gz Gn) (hj : j < 16) : fX4_truth_o X Z W (nI j) = fL_truth Gz (nI j) := r_tr hZ 5 0 j hj
-- queries
theorem r_cpS {i : Nat} {C Tc : Nat → Nat → Int32} {Ge Gv Gl Gx Gh : Nat → Int32} (h : rS i C Ge Gv Gl Gx Gh) : rS i (fX0_copyFrom Tc C) Ge Gv Gl Gx Gh := by
  have cp : ∀ (f g : Nat → Int32) (j : Nat), j < 16 → va_cpy f g 0 0 16 j = f j := by
    intro f g j hj
    simp [va_cpy, hj]
  refine h.congr (fun r hr j hj => ?_) rfl (fun _ _ => rfl) (fun _ _ => rfl) (fun _ _ => rfl) (fun _ _ => rfl) (fun _ _ => rfl)
  rcases (show r = 0 ∨ r = 1 ∨ r = 2 ∨ r = 3 ∨ r = 4 by omega) with rfl | rfl | rfl | rfl | rfl
  · exact cp _ _ j hj
  · exact cp _ _ j hj
  · exact cp _ _ j hj
  · exact cp _ _ j hj
  · exact cp _ _ j hj
theorem asks_1 {Gz Gn Ge Gv Gl Gx Gh : Nat → Int32} {i : Nat} {x : Int32} : (fL_asks_h Gz Gn Ge Gv Gl Gx Gh i x).1 = (fL_resolves Gz Gn Ge Gv Gl Gx Gh i x).1 := by
  unfold fL_asks_h
  split <;> rfl
theorem q_would {T n i j : Nat} {X W O Gz Gn Ge Gv Gl Gx Gh Ft Ot : Nat → Int32} {Z D Tc : Nat → Nat → Int32} {Cs : Nat → Nat → Nat → Int32} {x1 : Int32} (hT : T ≤ 100000) (h : rA T n X Z W D Cs O Gz Gn Ge Gv Gl Gx Gh) (hi : i < n) (hj : j < 16) : (fX4_wouldAnswer_oh X D i (Cs i) Z W Ft Ot Tc x1 (nI j)).1 = (fL_asks_h Gz Gn Ge Gv Gl Gx Gh i (nI j)).1 := by
  obtain ⟨hsi, hZ, hX, hO, ⟨t, ht, et⟩, hsl⟩ := h
  obtain ⟨an, C1, F1, O1, C2, O2, N, E, V, L, Y, H, a, g1, g2, g3, -⟩ := r_ask (F := Ft) (O := Ot) (by have := hsi.1; omega) hj (r_cpS (Tc := Tc) (hsl.1 i hi)) hZ hX.2.1 hsl.2.2 ⟨t, by omega, et⟩
  rw [asks_1, g3]
  show (fX4_resolve X Z W (fX0_copyFrom Tc (Cs i)) Ft Ot (nI j)).1 = an
  rw [g1]
theorem rS.out {i i' : Nat} {C : Nat → Nat → Int32} {Ge Gv Gl Gx Gh E V L Y H : Nat → Int32} (h : rS i' C Ge Gv Gl Gx Gh) (hne : i' ≠ i) (hO : rO i E V L Y H Ge Gv Gl Gx Gh) : rS i' C E V L Y H := by
  have ni : ∀ k, inS i' k → ¬ inS i k := fun k h1 h2 => by
    have := h1.1; have := h1.2; have := h2.1; have := h2.2
    omega
  exact h.congr (fun _ _ _ _ => rfl) rfl (fun k hk => (hO k (ni k hk)).1) (fun k hk => (hO k (ni k hk)).2.1) (fun k hk => (hO k (ni k hk)).2.2.1) (fun k hk => (hO k (ni k hk)).2.2.2.1) (fun k hk => (hO k (ni k hk)).2.2.2.2)
/-- what a query leaves of the class's numbers -/
theorem r_count {a i n : Nat} {X Gn O N : Nat → Int32} {F : Nat → Int32} {D0 an : Int32} (hX : rX n X Gn) (hN : rN a Gn O N) (hD : D0 = nI i) (h3 : Gn 3 = Gn 3) :
    rX n (fX4_countQuery (va_up X 5 D0) F O an) (if an = (-2) then upd (upd (upd (upd N 10 (N 10 + 1)) 13 (N 13 + N 16)) 14 (N 14 + 1)) 15 (nI i) else upd (upd (upd (upd N 10 (N 10 + 1)) 13 (N 13 + N 16)) 14 (N 14 + 0)) 15 (nI i)) := by
  obtain ⟨x2, x3, x5, x8, x9, x10, x11, x12⟩ := hX
  obtain ⟨n1, n2, n3, n4, n5, n6, n7, n8⟩ := hN
  subst hD
  have m10 := n8 10 (by omega)
  have m13 := n8 13 (by omega)
  have m14 := n8 14 (by omega)
  have m0 := n8 0 (by omega)
  have e9 : X 9 + O 3 = N 11 := by rw [x9, n6]
  have e10 : X 10 + O 4 = N 12 := by rw [x10, n7]
  have e8 : X 8 + 1 = N 10 + 1 := by rw [x8, m10]
  have e12 : X 12 + 1 = N 14 + 1 := by rw [x12, m14]
  have e12' : X 12 = N 14 + 0 := by rw [x12, m14, Int32.add_zero]
  unfold fX4_countQuery
  by_cases c5 : O 5 = 0
  · have e11 : X 11 = N 13 + N 16 := by rw [← n4, c5, Int32.add_zero, x11, m13]
    by_cases c2 : an = (-2)
    · rw [if_pos c5, if_pos c2, if_pos c2]
      exact ⟨x2, x3.trans m0.symm, rfl, e8, e9, e10, e11, e12⟩
    · rw [if_pos c5, if_neg c2, if_neg c2]
      exact ⟨x2, x3.trans m0.symm, rfl, e8, e9, e10, e11, e12'⟩
  · have e11 : X 11 + 1 = N 13 + N 16 := by
      have : N 16 = 1 := n5.resolve_left (fun q => c5 (n4.trans q))
      rw [this, x11, m13]
    by_cases c2 : an = (-2)
    · rw [if_neg c5, if_pos c2, if_pos c2]
      exact ⟨x2, x3.trans m0.symm, rfl, e8, e9, e10, e11, e12⟩
    · rw [if_neg c5, if_neg c2, if_neg c2]
      exact ⟨x2, x3.trans m0.symm, rfl, e8, e9, e10, e11, e12'⟩
theorem q_query {T n i j : Nat} {X W F O Gz Gn Ge Gv Gl Gx Gh : Nat → Int32} {Z D : Nat → Nat → Int32} {Cs : Nat → Nat → Nat → Int32} {x1 : Int32} (hT : T ≤ 100000) (h : rA T n X Z W D Cs O Gz Gn Ge Gv Gl Gx Gh) (hi : i < n) (hj : j < 16) :
    (fX4_query_oh X D i (Cs i) Z W F O x1 (nI j)).1 = (fL_asks_h Gz Gn Ge Gv Gl Gx Gh i (nI j)).1 ∧
    rA T n (fX4_query_oh X D i (Cs i) Z W F O x1 (nI j)).2.1 Z W D (va_up Cs i (fX4_query_oh X D i (Cs i) Z W F O x1 (nI j)).2.2.1) (fX4_query_oh X D i (Cs i) Z W F O x1 (nI j)).2.2.2.2 Gz (fL_asks_h Gz Gn Ge Gv Gl Gx Gh i (nI j)).2.1 (fL_asks_h Gz Gn Ge Gv Gl Gx Gh i (nI j)).2.2.1 (fL_asks_h Gz Gn Ge Gv Gl Gx Gh i (nI j)).2.2.2.1 (fL_asks_h Gz Gn Ge Gv Gl Gx Gh i (nI j)).2.2.2.2.1 (fL_asks_h Gz Gn Ge Gv Gl Gx Gh i (nI j)).2.2.2.2.2.1 (fL_asks_h Gz Gn Ge Gv Gl Gx Gh i (nI j)).2.2.2.2.2.2 := by
  obtain ⟨hsi, hZ, hX, hO, ⟨t, ht, et⟩, hsl⟩ := h
  have hi4 : i < 4 := by have := hsi.1; omega
  obtain ⟨an, C1, F1, O1, C2, O2, N, E, V, L, Y, H, a, g1, g2, g3, k1, k2, k3, k4⟩ := r_ask (F := F) (O := O) hi4 hj (hsl.1 i hi) hZ hX.2.1 hsl.2.2 ⟨t, by omega, et⟩
  have eq : fX4_query_oh X D i (Cs i) Z W F O x1 (nI j) = (an, fX4_countQuery (va_up X 5 (D i 0)) F1 O2 an, C2, F1, O2) := by
    unfold fX4_query_oh
    rw [g1]
    dsimp only
    rw [g2]
  have ea : fL_asks_h Gz Gn Ge Gv Gl Gx Gh i (nI j) = (an, (if an = (-2) then upd (upd (upd (upd N 10 (N 10 + 1)) 13 (N 13 + N 16)) 14 (N 14 + 1)) 15 (nI i) else upd (upd (upd (upd N 10 (N 10 + 1)) 13 (N 13 + N 16)) 14 (N 14 + 0)) 15 (nI i)), E, V, L, Y, H) := by
    unfold fL_asks_h
    rw [g3]
    dsimp only
    by_cases c : an = (-2)
    · rw [if_pos c, if_pos c]
    · rw [if_neg c, if_neg c]
  rw [eq, ea]
  refine ⟨rfl, ?_⟩
  dsimp only
  have hXc := r_count (F := F1) (an := an) hX k3 ((hsi.2.2.choose_spec.2.2 i hi).1) rfl
  have keep : ∀ k, (k < 10 ∨ k = 16 ∨ k = 17 ∨ k = 18) → (if an = (-2) then upd (upd (upd (upd N 10 (N 10 + 1)) 13 (N 13 + N 16)) 14 (N 14 + 1)) 15 (nI i) else upd (upd (upd (upd N 10 (N 10 + 1)) 13 (N 13 + N 16)) 14 (N 14 + 0)) 15 (nI i)) k = N k := by
    intro k hk
    split
    · rw [r_un _ _ (by omega), r_un _ _ (by omega), r_un _ _ (by omega), r_un _ _ (by omega)]
    · rw [r_un _ _ (by omega), r_un _ _ (by omega), r_un _ _ (by omega), r_un _ _ (by omega)]
  revert hXc keep
  generalize (if an = (-2) then upd (upd (upd (upd N 10 (N 10 + 1)) 13 (N 13 + N 16)) 14 (N 14 + 1)) 15 (nI i) else upd (upd (upd (upd N 10 (N 10 + 1)) 13 (N 13 + N 16)) 14 (N 14 + 0)) 15 (nI i)) = M
  intro hXc keep
  have kk : ∀ k, k < 10 → M k = Gn k := fun k hk => (keep k (by omega)).trans (k3.2.2.2.2.2.2.2 k (by omega))
  obtain ⟨s1, s2, b, s3, s4, s5⟩ := hsi
  refine ⟨⟨s1, by rw [kk 3 (by omega)]; exact s2, b, s3, by rw [kk 4 (by omega)]; exact s4, fun i' hi' => ?_⟩, hZ.mono (kk 1 (by omega)) (kk 2 (by omega)), hXc, ⟨?_, ?_, ?_, ?_⟩, ⟨t, ht, by rw [kk 0 (by omega)]; exact et⟩, fun i' hi' => ?_, fun k h1 h2 => ?_, k2⟩
  · rw [kk (5 + i') (by omega)]; exact s5 i' hi'
  · rw [keep 17 (by omega), k3.1, k3.2.1]
  · rw [keep 18 (by omega)]; exact k3.2.2.1
  · rw [keep 16 (by omega)]; exact k3.2.2.2.1
  · rw [keep 16 (by omega)]; exact k3.2.2.2.2.1
  · by_cases q : i' = i
    · rw [q, va_up_self]; exact k1
    · rw [va_up_ne _ _ q]; exact (hsl.1 i' hi').out q k4
  · rw [(k4 k (fun q => by have := q.1; have := q.2; omega)).1]; exact hsl.2.1 k h1 h2
