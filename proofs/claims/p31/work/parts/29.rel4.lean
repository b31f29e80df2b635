/-! RELATION: resolving -/
theorem rS.slotAt {i : Nat} {C : Nat → Nat → Int32} {Ge Gv Gl Gx Gh : Nat → Int32} (h : rS i C Ge Gv Gl Gx Gh) {j k : Nat} (hj : j < 16) (hk : inS i k) (e : Ge k = nI (j + 1)) : fL_slot Ge i (nI j) = nI k := by
  rcases h.slot hj with ⟨_, c3⟩ | ⟨k', hk', s1, s2, _⟩
  · exact absurd c3 (h.has hj hk e).1.n3
  · rw [s1, h.2.1 k' k hk' hk (s2.trans e.symm) (by rw [s2]; exact r_j1 hj)]
theorem L41_0 {Gz Gn Ge Gv Gl Gx Gh N E V L Y H U En : Nat → Int32} {i n a : Nat} {x mn an nx : Int32} : fL_resolves_L41 Gz Gn Ge Gv Gl Gx Gh i x n a mn an nx 0 N E V L Y H U En = fL_resolves_L269 Gz Gn Ge Gv Gl Gx Gh i x mn.toNatClampNeg 0 mn an N E V L Y H U En := by
  cases n with
  | zero => rw [fL_resolves_L41, if_pos rfl]
  | succ n => rw [fL_resolves_L41, if_pos rfl]
def rDone (i : Nat) (X W Gz Gn Ge Gv Gl Gx Gh : Nat → Int32) (Z : Nat → Nat → Int32) (x : Int32) (cls : Int32 × (Nat → Nat → Int32) × (Nat → Int32) × (Nat → Int32)) (law : Int32 × (Nat → Int32) × (Nat → Int32) × (Nat → Int32) × (Nat → Int32) × (Nat → Int32) × (Nat → Int32)) : Prop :=
  ∃ (an' : Int32) (C' : Nat → Nat → Int32) (F' O' N' E' V' L' Y' H' U' En' : Nat → Int32) (mn' : Int32), cls = (an', C', F', O') ∧ law = fL_resolves_L269 Gz Gn Ge Gv Gl Gx Gh i x mn'.toNatClampNeg 0 mn' an' N' E' V' L' Y' H' U' En' ∧ ∃ a', 1 ≤ a' ∧ a' ≤ 5 ∧ rQ i a' X W Gz Gn Ge Gv Gl Gx Gh Z C' F' O' N' E' V' L' Y' H' U' En' mn'
theorem r_fin {i n a s j : Nat} {X W Gz Gn Ge Gv Gl Gx Gh F O N E V L Y H U En F0 O0 : Nat → Int32} {Z C C0 : Nat → Nat → Int32} {x mn : Int32} (hi : i < 4) (ha : a + 1 ≤ 5) (h : rQ i (a + 1) X W Gz Gn Ge Gv Gl Gx Gh Z C F O N E V L Y H U En mn)
    (ih : ∀ j', j' < 16 → rDone i X W Gz Gn Ge Gv Gl Gx Gh Z x (fX4_resolve_L10 X Z W C0 F0 O0 x n (a + 1) (nI j') C F O) (fL_resolves_L41 Gz Gn Ge Gv Gl Gx Gh i x n (a + 1) mn (-2) (nI j') 1 N E V L Y H U En)) (hj : j < 16) (hs : inS i s) (he : E s = nI (j + 1)) :
    rDone i X W Gz Gn Ge Gv Gl Gx Gh Z x (if fX0_kindOf C (nI j) = 1 then fX4_resolve_L10 X Z W C0 F0 O0 x n (a + 1) (fX0_valueOf C (nI j)) C F O else if fX0_kindOf C (nI j) = 0 then (fX0_valueOf C (nI j), C, F, O) else ((-1), C, F, O))
      (if 0 ≤ V s then (if V s ≤ 0 then fL_resolves_L41 Gz Gn Ge Gv Gl Gx Gh i x n (a + 1) mn (-1) (nI j) 0 N E V L Y H U En else fL_resolves_L41 Gz Gn Ge Gv Gl Gx Gh i x n (a + 1) mn (V s) (nI j) 0 N E V L Y H U En) else fL_resolves_L41 Gz Gn Ge Gv Gl Gx Gh i x n (a + 1) mn (-2) ((-1) - V s) 1 N E V L Y H U En) := by
  have hE := h.1.has hj hs he
  rw [r_kO hj, r_vO hj, if_neg hE.1.n3]
  rcases hE.1 with ⟨h1, h2, h3⟩ | ⟨h1, h2, h3⟩ | ⟨h1, h2, h3⟩
  · rw [h2, h3, if_neg (by decide), if_pos rfl, if_pos (Int32.le_of_lt h1), if_neg (Int32.not_le.mpr h1), L41_0]
    exact ⟨_, _, _, _, _, _, _, _, _, _, _, _, _, rfl, rfl, a + 1, by omega, ha, h⟩
  · rw [h2, h3, if_pos rfl, if_neg (Int32.not_le.mpr h1)]
    obtain ⟨j', hj', e'⟩ := vp_in_of (h.2.2.2.1 s h1) (by decide)
    rw [e']
    exact ih j' hj'
  · rw [h2, h3, h1, if_neg (by decide), if_neg (by decide), if_pos (by decide), if_pos (by decide), L41_0]
    exact ⟨_, _, _, _, _, _, _, _, _, _, _, _, _, rfl, rfl, a + 1, by omega, ha, h⟩
/-- a fetch within a query -/
theorem r_stepF {i a j : Nat} {X W Gz Gn Ge Gv Gl Gx Gh F O N E V L Y H U En : Nat → Int32} {Z C : Nat → Nat → Int32} {mn : Int32} (hi : i < 4) (hj : j < 16) (ht : ∃ t, t ≤ 100000 ∧ Gn 0 = nI t) (h : rQ i a X W Gz Gn Ge Gv Gl Gx Gh Z C F O N E V L Y H U En mn) (hnf : ∀ s, inS i s → E s = nI (j + 1) → ¬ N 0 < Y s) :
    ∃ (k : Nat) (C' : Nat → Nat → Int32) (O' N' E' V' L' Y' H' : Nat → Int32), inS i k ∧ E' k = nI (j + 1) ∧ fX4_fetch X Z W C F (va_up O 2 (O 2 + 1)) (nI j) = (C', O') ∧ fL_fetches Gz (upd N 17 (N 17 + 1)) E V L Y H i (nI j) = (N', E', V', L', Y', H') ∧ rQ i (a + 1) X W Gz Gn Ge Gv Gl Gx Gh Z C' F O' N' E' V' L' Y' H' U En mn := by
  obtain ⟨hS, hZ, hX, hV, hN, hO, m, hm, e1, e2, hu⟩ := h
  have n0 : (upd N 17 (N 17 + 1)) 0 = N 0 := r_un _ _ (by decide)
  obtain ⟨k, hk, hc, g1, g2, g3⟩ := r_fetch (X := X) (W := W) (F := F) (O := va_up O 2 (O 2 + 1)) (Gn := upd N 17 (N 17 + 1)) hi hj hS (hZ.mono (r_un _ _ (by decide)) (r_un _ _ (by decide))) (by rw [n0]; exact hX)
  refine ⟨k, _, _, _, _, _, _, _, _, hk, r_us _ _ _, Prod.ext rfl g3, g1, g2, ?_, ?_, ?_, ?_, ?_, m, by omega, e1, ?_, fun k' hk' => ?_⟩
  · exact hZ.mono (by rw [r_un _ _ (by decide), r_un _ _ (by decide), r_un _ _ (by decide)]) (by rw [r_un _ _ (by decide), r_un _ _ (by decide), r_un _ _ (by decide)])
  · rw [r_un _ _ (by decide), r_un _ _ (by decide), n0]; exact hX
  · intro t
    by_cases q : t = k
    · rw [q, r_us]; exact fun h0 => (hZ.1 j hj).2.2 h0
    · rw [r_un _ _ q]; exact hV t
  · exact hN.look.fet
  · exact hO.set hk
  · rw [va_up_ne _ _ (by decide), va_up_ne _ _ (by decide)]; exact e2
  · have e0 : (upd (upd (upd N 17 (N 17 + 1)) 11 ((upd N 17 (N 17 + 1)) 11 + 1)) 18 ((upd N 17 (N 17 + 1)) 18 + 1)) 0 = N 0 := by rw [r_un _ _ (by decide), r_un _ _ (by decide), n0]
    rw [e0]
    refine (hu k' hk').fetch hj hk hS.2.1 hnf ?_ (by omega)
    obtain ⟨t, ht1, ht2⟩ := ht
    obtain ⟨q, q1, q2, q3⟩ := r_lfR (Gn := upd N 17 (N 17 + 1)) (hZ.mono (r_un _ _ (by decide)) (r_un _ _ (by decide))) hj
    rw [n0, q3, hN.2.2.2.2.2.2.2 0 (by omega), ht2]
    exact r_now ht1 q1 q2
theorem r_W4 {Z : Nat → Nat → Int32} {W Gz N : Nat → Int32} (hZ : rZn Z W Gz N) : (N 2 = 1 ∧ ¬ W 4 = 0) ∨ (¬ N 2 = 1 ∧ W 4 = 0) := by
  rcases hZ.2.2.2.2 with q | q
  · refine Or.inr ⟨by rw [q]; decide, by rw [hZ.2.2.2.1]; exact q⟩
  · refine Or.inl ⟨q, by rw [hZ.2.2.2.1, q]; decide⟩
theorem r_look5 {i a : Nat} {X W Gz Gn Ge Gv Gl Gx Gh F O N E V L Y H U En : Nat → Int32} {Z C : Nat → Nat → Int32} {mn : Int32} (h : rQ i a X W Gz Gn Ge Gv Gl Gx Gh Z C F O N E V L Y H U En mn) : rQ i (a + 1) X W Gz Gn Ge Gv Gl Gx Gh Z C F (va_up O 2 (O 2 + 1)) (upd N 17 (N 17 + 1)) E V L Y H U En mn := by
  obtain ⟨hS, hZ, hX, hV, hN, hO, m, hm, e1, e2, hu⟩ := h
  refine ⟨hS, hZ.mono (r_un _ _ (by decide)) (r_un _ _ (by decide)), by rw [r_un _ _ (by decide)]; exact hX, hV, hN.look, hO, m, by omega, e1, by rw [va_up_ne _ _ (by decide)]; exact e2, fun k hk => ?_⟩
  rw [r_un _ _ (by decide)]
  exact (hu k hk).mono
theorem r_stale5 {i a : Nat} {X W Gz Gn Ge Gv Gl Gx Gh F O N E V L Y H U En : Nat → Int32} {Z C : Nat → Nat → Int32} {mn : Int32} (h : rQ i a X W Gz Gn Ge Gv Gl Gx Gh Z C F O N E V L Y H U En mn) : rQ i a X W Gz Gn Ge Gv Gl Gx Gh Z C F (va_up O 5 1) (upd N 16 1) E V L Y H U En mn := by
  obtain ⟨hS, hZ, hX, hV, hN, hO, m, hm, e1, e2, hu⟩ := h
  refine ⟨hS, hZ.mono (r_un _ _ (by decide)) (r_un _ _ (by decide)), by rw [r_un _ _ (by decide)]; exact hX, hV, hN.stale, hO, m, hm, e1, by rw [va_up_ne _ _ (by decide)]; exact e2, fun k hk => ?_⟩
  rw [r_un _ _ (by decide)]
  exact hu k hk
/-- a fresh use -/
theorem r_fresh5 {i a j s : Nat} {X W Gz Gn Ge Gv Gl Gx Gh F O N E V L Y H U En : Nat → Int32} {Z C : Nat → Nat → Int32} {mn : Int32} (ha : a ≤ 4) (hj : j < 16) (hs : inS i s) (he : E s = nI (j + 1)) (hf : N 0 < Y s) (h : rQ i a X W Gz Gn Ge Gv Gl Gx Gh Z C F O N E V L Y H U En mn) :
    fX1_noteFresh F (va_up O 2 (O 2 + 1)) (nI j) = (upd F mn.toNatClampNeg (nI j), va_up (va_up O 2 (O 2 + 1)) 1 (mn + 1)) ∧
    rQ i (a + 1) X W Gz Gn Ge Gv Gl Gx Gh Z (fX0_countHit C (nI j)) (upd F mn.toNatClampNeg (nI j)) (va_up (va_up O 2 (O 2 + 1)) 1 (mn + 1)) (upd N 17 (N 17 + 1)) E V L Y (upd H s (H s + 1)) (upd U mn.toNatClampNeg (nI j)) (upd En mn.toNatClampNeg (Y s)) (mn + 1) := by
  obtain ⟨hS, hZ, hX, hV, hN, hO, m, hm, e1, e2, hu⟩ := h
  have hcl : mn.toNatClampNeg = m := by rw [e1, nI_clamp (by omega)]
  have hE := hS.has hj hs he
  constructor
  · unfold fX1_noteFresh
    have e3 : (va_up O 2 (O 2 + 1)) 1 = nI m := by rw [va_up_ne _ _ (by decide)]; exact e2
    rw [e3, if_neg (show ¬ 5 ≤ nI m from nI_ge (b := 5) (by omega) (by decide)), e1]
  · rw [r_hit hj hE.1.n3]
    refine ⟨hS.hit hj hs he, hZ.mono (r_un _ _ (by decide)) (r_un _ _ (by decide)), by rw [r_un _ _ (by decide)]; exact hX, hV, hN.look.note, hO.hit hs, m + 1, by omega, by rw [e1, nI_1], by rw [va_up_self, e1, nI_1], fun k hk => ?_⟩
    rw [r_un N (i := 17) _ (by decide), hcl]
    by_cases q : k = m
    · subst q
      exact ⟨j, hj, r_us _ _ _, r_us _ _ _, Or.inr ⟨s, hs, he, hf, Or.inl (by rw [r_us])⟩⟩
    · exact ((hu k (by omega)).hit (s0 := s)).congr (r_un _ _ q) (r_un _ _ q) (r_un _ _ q)
theorem r_100 {x y z : Int32} (h : y = z) : (100 ≤ x - y ↔ 100 ≤ x - z) := by rw [h]
theorem r_res {i : Nat} {X W Gz Gn Ge Gv Gl Gx Gh F0 O0 : Nat → Int32} {Z C0 : Nat → Nat → Int32} {x : Int32} (hi : i < 4) (ht : ∃ t, t ≤ 100000 ∧ Gn 0 = nI t) : ∀ (n a j : Nat) (C : Nat → Nat → Int32) (F O N E V L Y H U En : Nat → Int32) (mn : Int32), a + n = 5 → (n = 0 → 1 ≤ a) → j < 16 → rQ i a X W Gz Gn Ge Gv Gl Gx Gh Z C F O N E V L Y H U En mn →
    rDone i X W Gz Gn Ge Gv Gl Gx Gh Z x (fX4_resolve_L10 X Z W C0 F0 O0 x n a (nI j) C F O) (fL_resolves_L41 Gz Gn Ge Gv Gl Gx Gh i x n a mn (-2) (nI j) 1 N E V L Y H U En)
  | 0, a, j, C, F, O, N, E, V, L, Y, H, U, En, mn, ha, h1, hj, h => by
    rw [fX4_resolve_L10, fL_resolves_L41, if_neg (by decide)]
    exact ⟨_, _, _, _, _, _, _, _, _, _, _, _, _, rfl, rfl, a, h1 rfl, by omega, h⟩
  | n + 1, a, j, C, F, O, N, E, V, L, Y, H, U, En, mn, ha, _, hj, h => by
    have hS := h.1
    have hX := h.2.2.1
    rw [fX4_resolve_L10, fL_resolves_L41, if_neg (show ¬ (1 : Int32) = 0 by decide)]
    have fet : (∀ s, inS i s → E s = nI (j + 1) → ¬ N 0 < Y s) → ¬ W 4 = 0 → fX0_isFresh C (nI j) (X 3) = 0 → rDone i X W Gz Gn Ge Gv Gl Gx Gh Z x (if (fX4_lookUp X Z W C F O (nI j)).1 = 0 then ((-2), (fX4_lookUp X Z W C F O (nI j)).2.1, (fX4_lookUp X Z W C F O (nI j)).2.2.1, (fX4_lookUp X Z W C F O (nI j)).2.2.2) else if (fX0_kindOf ((fX4_lookUp X Z W C F O (nI j)).2.1) (nI j)) = 1 then fX4_resolve_L10 X Z W C0 F0 O0 x n (a + 1) (fX0_valueOf ((fX4_lookUp X Z W C F O (nI j)).2.1) (nI j)) ((fX4_lookUp X Z W C F O (nI j)).2.1) ((fX4_lookUp X Z W C F O (nI j)).2.2.1) ((fX4_lookUp X Z W C F O (nI j)).2.2.2) else if (fX0_kindOf ((fX4_lookUp X Z W C F O (nI j)).2.1) (nI j)) = 0 then ((fX0_valueOf ((fX4_lookUp X Z W C F O (nI j)).2.1) (nI j)), ((fX4_lookUp X Z W C F O (nI j)).2.1), ((fX4_lookUp X Z W C F O (nI j)).2.2.1), ((fX4_lookUp X Z W C F O (nI j)).2.2.2)) else ((-1), ((fX4_lookUp X Z W C F O (nI j)).2.1), ((fX4_lookUp X Z W C F O (nI j)).2.2.1), ((fX4_lookUp X Z W C F O (nI j)).2.2.2)))
        (if (fL_slot ((fL_fetches Gz (upd N 17 ((N 17) + 1)) E V L Y H i (nI j)).2.1) i (nI j)) < 0 then fL_resolves_L41 Gz Gn Ge Gv Gl Gx Gh i x n (a + 1) mn (-2) (nI j) 0 ((fL_fetches Gz (upd N 17 ((N 17) + 1)) E V L Y H i (nI j)).1) ((fL_fetches Gz (upd N 17 ((N 17) + 1)) E V L Y H i (nI j)).2.1) ((fL_fetches Gz (upd N 17 ((N 17) + 1)) E V L Y H i (nI j)).2.2.1) ((fL_fetches Gz (upd N 17 ((N 17) + 1)) E V L Y H i (nI j)).2.2.2.1) ((fL_fetches Gz (upd N 17 ((N 17) + 1)) E V L Y H i (nI j)).2.2.2.2.1) ((fL_fetches Gz (upd N 17 ((N 17) + 1)) E V L Y H i (nI j)).2.2.2.2.2) U En else if 0 ≤ (((fL_fetches Gz (upd N 17 ((N 17) + 1)) E V L Y H i (nI j)).2.2.1) ((fL_slot ((fL_fetches Gz (upd N 17 ((N 17) + 1)) E V L Y H i (nI j)).2.1) i (nI j)).toNatClampNeg)) then (if (((fL_fetches Gz (upd N 17 ((N 17) + 1)) E V L Y H i (nI j)).2.2.1) ((fL_slot ((fL_fetches Gz (upd N 17 ((N 17) + 1)) E V L Y H i (nI j)).2.1) i (nI j)).toNatClampNeg)) ≤ 0 then fL_resolves_L41 Gz Gn Ge Gv Gl Gx Gh i x n (a + 1) mn (-1) (nI j) 0 ((fL_fetches Gz (upd N 17 ((N 17) + 1)) E V L Y H i (nI j)).1) ((fL_fetches Gz (upd N 17 ((N 17) + 1)) E V L Y H i (nI j)).2.1) ((fL_fetches Gz (upd N 17 ((N 17) + 1)) E V L Y H i (nI j)).2.2.1) ((fL_fetches Gz (upd N 17 ((N 17) + 1)) E V L Y H i (nI j)).2.2.2.1) ((fL_fetches Gz (upd N 17 ((N 17) + 1)) E V L Y H i (nI j)).2.2.2.2.1) ((fL_fetches Gz (upd N 17 ((N 17) + 1)) E V L Y H i (nI j)).2.2.2.2.2) U En else fL_resolves_L41 Gz Gn Ge Gv Gl Gx Gh i x n (a + 1) mn (((fL_fetches Gz (upd N 17 ((N 17) + 1)) E V L Y H i (nI j)).2.2.1) ((fL_slot ((fL_fetches Gz (upd N 17 ((N 17) + 1)) E V L Y H i (nI j)).2.1) i (nI j)).toNatClampNeg)) (nI j) 0 ((fL_fetches Gz (upd N 17 ((N 17) + 1)) E V L Y H i (nI j)).1) ((fL_fetches Gz (upd N 17 ((N 17) + 1)) E V L Y H i (nI j)).2.1) ((fL_fetches Gz (upd N 17 ((N 17) + 1)) E V L Y H i (nI j)).2.2.1) ((fL_fetches Gz (upd N 17 ((N 17) + 1)) E V L Y H i (nI j)).2.2.2.1) ((fL_fetches Gz (upd N 17 ((N 17) + 1)) E V L Y H i (nI j)).2.2.2.2.1) ((fL_fetches Gz (upd N 17 ((N 17) + 1)) E V L Y H i (nI j)).2.2.2.2.2) U En) else fL_resolves_L41 Gz Gn Ge Gv Gl Gx Gh i x n (a + 1) mn (-2) ((-1) - (((fL_fetches Gz (upd N 17 ((N 17) + 1)) E V L Y H i (nI j)).2.2.1) ((fL_slot ((fL_fetches Gz (upd N 17 ((N 17) + 1)) E V L Y H i (nI j)).2.1) i (nI j)).toNatClampNeg))) 1 ((fL_fetches Gz (upd N 17 ((N 17) + 1)) E V L Y H i (nI j)).1) ((fL_fetches Gz (upd N 17 ((N 17) + 1)) E V L Y H i (nI j)).2.1) ((fL_fetches Gz (upd N 17 ((N 17) + 1)) E V L Y H i (nI j)).2.2.1) ((fL_fetches Gz (upd N 17 ((N 17) + 1)) E V L Y H i (nI j)).2.2.2.1) ((fL_fetches Gz (upd N 17 ((N 17) + 1)) E V L Y H i (nI j)).2.2.2.2.1) ((fL_fetches Gz (upd N 17 ((N 17) + 1)) E V L Y H i (nI j)).2.2.2.2.2) U En) := by
      intro hnf hw hfr
      obtain ⟨k, C', O', N', E', V', L', Y', H', hk, hk2, g1, g2, g3⟩ := r_stepF hi hj ht h hnf
      have hl : fX4_lookUp X Z W C F O (nI j) = (1, C', F, O') := by
        unfold fX4_lookUp
        rw [if_pos hfr, if_neg hw, g1]
        rfl
      rw [hl, g2]
      dsimp only
      rw [if_neg (show ¬ (1 : Int32) = 0 by decide), g3.1.slotAt hj hk hk2, if_neg (nI_pos (by have := hk.2; omega)), nI_clamp (by have := hk.2; omega)]
      exact r_fin hi (by omega) g3 (fun j' hj' => r_res hi ht n (a + 1) j' C' F O' N' E' V' L' Y' H' U En mn (by omega) (fun _ => by omega) hj' g3) hj hk hk2
    rcases hS.slot hj with ⟨s1, c3⟩ | ⟨s, hs, s1, s2, s3⟩
    · have hno : ∀ s, inS i s → E s = nI (j + 1) → ¬ N 0 < Y s := fun s hs e => absurd c3 (hS.has hj hs e).1.n3
      have hfr : fX0_isFresh C (nI j) (X 3) = 0 := by rw [r_fr hj, if_pos c3]
      have hlt : fL_slot E i (nI j) < 0 := by rw [s1]; decide
      rw [if_pos hlt]
      rcases r_W4 h.2.1 with ⟨w1, w2⟩ | ⟨w1, w2⟩
      · rw [if_pos w1]
        exact fet hno w2 hfr
      · rw [if_neg w1]
        have hl : fX4_lookUp X Z W C F O (nI j) = (0, C, F, va_up O 2 (O 2 + 1)) := by
          unfold fX4_lookUp
          rw [if_pos hfr, if_pos w2, if_pos (by rw [r_st hj, if_pos c3])]
        rw [hl]
        dsimp only
        rw [if_pos rfl, L41_0]
        exact ⟨_, _, _, _, _, _, _, _, _, _, _, _, _, rfl, rfl, a + 1, by omega, by omega, r_look5 h⟩
    · have n3 := s3.1.n3
      have hge : ¬ fL_slot E i (nI j) < 0 := by rw [s1]; exact nI_pos (by have := hs.2; omega)
      have hcl : (fL_slot E i (nI j)).toNatClampNeg = s := by rw [s1]; exact nI_clamp (by have := hs.2; omega)
      rw [if_neg hge, hcl]
      by_cases c : Y s ≤ N 0
      · have hno : ∀ s', inS i s' → E s' = nI (j + 1) → ¬ N 0 < Y s' := fun s' hs' e => by
          rw [hS.2.1 s' s hs' hs (e.trans s2.symm) (by rw [e]; exact r_j1 hj)]
          exact Int32.not_lt.mpr c
        have hfr : fX0_isFresh C (nI j) (X 3) = 0 := by rw [r_fr hj, if_neg n3, s3.2.2.1, hX, if_pos c]
        rw [if_pos c]
        rcases r_W4 h.2.1 with ⟨w1, w2⟩ | ⟨w1, w2⟩
        · rw [if_pos w1]
          exact fet hno w2 hfr
        · rw [if_neg w1]
          by_cases d : 100 ≤ N 0 - Y s
          · have hl : fX4_lookUp X Z W C F O (nI j) = (0, C, F, va_up O 2 (O 2 + 1)) := by
              unfold fX4_lookUp
              rw [if_pos hfr, if_pos w2, if_pos (by rw [r_st hj, if_neg n3, s3.2.2.1, hX, if_pos d])]
            rw [if_pos d, hl]
            dsimp only
            rw [if_pos rfl, L41_0]
            exact ⟨_, _, _, _, _, _, _, _, _, _, _, _, _, rfl, rfl, a + 1, by omega, by omega, r_look5 h⟩
          · have hl : fX4_lookUp X Z W C F O (nI j) = (1, C, F, va_up (va_up O 2 (O 2 + 1)) 5 1) := by
              unfold fX4_lookUp
              rw [if_pos hfr, if_pos w2, if_neg (by rw [r_st hj, if_neg n3, s3.2.2.1, hX, if_neg d]; decide)]
            have g3 := r_stale5 (r_look5 h)
            rw [if_neg d, hl]
            dsimp only
            rw [if_neg (show ¬ (1 : Int32) = 0 by decide)]
            exact r_fin hi (by omega) g3 (fun j' hj' => r_res hi ht n (a + 1) j' _ _ _ _ _ _ _ _ _ _ _ mn (by omega) (fun _ => by omega) hj' g3) hj hs s2
      · have hf : N 0 < Y s := Int32.not_le.mp c
        obtain ⟨g1, g3⟩ := r_fresh5 (by omega) hj hs s2 hf h
        have hl : fX4_lookUp X Z W C F O (nI j) = (1, fX0_countHit C (nI j), upd F mn.toNatClampNeg (nI j), va_up (va_up O 2 (O 2 + 1)) 1 (mn + 1)) := by
          unfold fX4_lookUp
          rw [if_neg (by rw [r_fr hj, if_neg n3, s3.2.2.1, hX, if_neg c]; decide)]
          unfold fX4_lookUp_s5 fX4_lookUp_s6
          rw [g1]
        rw [if_neg c, hl]
        dsimp only
        rw [if_neg (show ¬ (1 : Int32) = 0 by decide)]
        exact r_fin hi (by omega) g3 (fun j' hj' => r_res hi ht n (a + 1) j' _ _ _ _ _ _ _ _ _ _ _ _ (by omega) (fun _ => by omega) hj' g3) hj hs s2
