/-! RELATION: a fetch -/
theorem lt_T {a b : Int32} : a < b ↔ a.toInt < b.toInt := Int32.lt_iff_toInt_lt
theorem le_T {a b : Int32} : a ≤ b ↔ a.toInt ≤ b.toInt := Int32.le_iff_toInt_le
theorem eq_T {a b : Int32} : a = b ↔ a.toInt = b.toInt := Int32.toInt_inj.symm
/-- the entry that ends first, of several the one with the lowest name: by the names -/
theorem r_fe {C : Nat → Nat → Int32} : ∀ (n a : Nat) (g : Int32), a + n = 16 → ((g = (-3) ∧ ∀ b, b < a → C 0 b = 3) ∨ ∃ b, b < a ∧ g = nI b ∧ ¬ C 0 b = 3 ∧ ∀ b', b' < a → ¬ C 0 b' = 3 → (C 3 b).toInt < (C 3 b').toInt ∨ ((C 3 b).toInt = (C 3 b').toInt ∧ b ≤ b')) →
    (∀ b, b < 16 → C 0 b = 3) ∨ ∃ b, b < 16 ∧ fX0_firstToEnd_L5 C n a g = nI b ∧ ¬ C 0 b = 3 ∧ ∀ b', b' < 16 → ¬ C 0 b' = 3 → (C 3 b).toInt < (C 3 b').toInt ∨ ((C 3 b).toInt = (C 3 b').toInt ∧ b ≤ b')
  | 0, a, g, ha, hg => by
    rcases hg with ⟨_, h⟩ | ⟨b, hb, e, h1, h2⟩
    · exact Or.inl fun b hb => h b (by omega)
    · exact Or.inr ⟨b, by omega, by rw [fX0_firstToEnd_L5, e], h1, fun b' hb' => h2 b' (by omega)⟩
  | n + 1, a, g, ha, hg => by
    have h16 : a < 16 := by omega
    rw [fX0_firstToEnd_L5, r_cl h16]
    by_cases e : C 0 a = 3
    · rw [if_pos e]
      refine r_fe n (a + 1) g (by omega) (hg.imp (fun ⟨h1, h2⟩ => ⟨h1, fun b hb => ?_⟩) (fun ⟨b, hb, e1, h1, h2⟩ => ⟨b, by omega, e1, h1, fun b' hb' h3 => ?_⟩))
      · by_cases q : b = a
        · rw [q]; exact e
        · exact h2 b (by omega)
      · by_cases q : b' = a
        · rw [q] at h3; exact absurd e h3
        · exact h2 b' (by omega) h3
    · rw [if_neg e]
      rcases hg with ⟨rfl, h2⟩ | ⟨b, hb, rfl, h1, h2⟩
      · rw [if_pos (by decide)]
        refine r_fe n (a + 1) _ (by omega) (Or.inr ⟨a, by omega, rfl, e, fun b' hb' h3 => ?_⟩)
        by_cases q : b' = a
        · rw [q]; exact Or.inr ⟨rfl, Nat.le_refl _⟩
        · exact absurd (h2 b' (by omega)) h3
      · rw [if_neg (r_n0 (by omega)), r_cl (show b < 16 by omega)]
        by_cases q : C 3 b ≤ C 3 a
        · rw [if_pos q]
          rw [le_T] at q
          refine r_fe n (a + 1) _ (by omega) (Or.inr ⟨b, by omega, rfl, h1, fun b' hb' h3 => ?_⟩)
          by_cases q2 : b' = a
          · rw [q2]
            by_cases q3 : (C 3 b).toInt = (C 3 a).toInt
            · exact Or.inr ⟨q3, by omega⟩
            · exact Or.inl (by omega)
          · exact h2 b' (by omega) h3
        · rw [if_neg q]
          rw [le_T] at q
          refine r_fe n (a + 1) _ (by omega) (Or.inr ⟨a, by omega, rfl, e, fun b' hb' h3 => ?_⟩)
          by_cases q2 : b' = a
          · rw [q2]; exact Or.inr ⟨rfl, Nat.le_refl _⟩
          · rcases h2 b' (by omega) h3 with q3 | ⟨q3, _⟩
            · exact Or.inl (by omega)
            · exact Or.inl (by omega)
/-- the same by the slots -/
theorem r_f77 {Ge Gx : Nat → Int32} {i : Nat} (hi : i < 4) : ∀ (n a : Nat) (g : Int32), a + n = 5 → (∃ k, 6 * i ≤ k ∧ k < 6 * i + 1 + a ∧ g = nI k ∧ ∀ k', 6 * i ≤ k' → k' < 6 * i + 1 + a → (Gx k).toInt < (Gx k').toInt ∨ ((Gx k).toInt = (Gx k').toInt ∧ (Ge k).toInt ≤ (Ge k').toInt)) →
    ∃ k, inS i k ∧ fT77 Ge Gx i n a g = nI k ∧ ∀ k', inS i k' → (Gx k).toInt < (Gx k').toInt ∨ ((Gx k).toInt = (Gx k').toInt ∧ (Ge k).toInt ≤ (Ge k').toInt)
  | 0, a, g, ha, ⟨k, h1, h2, e, h3⟩ => ⟨k, ⟨h1, by omega⟩, by rw [fT77, e], fun k' hk' => h3 k' hk'.1 (by have := hk'.2; omega)⟩
  | n + 1, a, g, ha, ⟨k, h1, h2, e, h3⟩ => by
    subst e
    rw [fT77, nI_clamp (by omega)]
    have new : (∀ k', 6 * i ≤ k' → k' < 6 * i + 1 + a → (Gx (6 * i + 1 + a)).toInt < (Gx k').toInt ∨ ((Gx (6 * i + 1 + a)).toInt = (Gx k').toInt ∧ (Ge (6 * i + 1 + a)).toInt ≤ (Ge k').toInt)) → ∃ k, inS i k ∧ fT77 Ge Gx i n (a + 1) (nI (6 * i + 1 + a)) = nI k ∧ ∀ k', inS i k' → (Gx k).toInt < (Gx k').toInt ∨ ((Gx k).toInt = (Gx k').toInt ∧ (Ge k).toInt ≤ (Ge k').toInt) := fun q => by
      refine r_f77 hi n (a + 1) _ (by omega) ⟨6 * i + 1 + a, by omega, by omega, rfl, fun k' h4 h5 => ?_⟩
      by_cases q2 : k' = 6 * i + 1 + a
      · rw [q2]; exact Or.inr ⟨rfl, Int.le_refl _⟩
      · exact q k' h4 (by omega)
    have old : ((Gx k).toInt < (Gx (6 * i + 1 + a)).toInt ∨ ((Gx k).toInt = (Gx (6 * i + 1 + a)).toInt ∧ (Ge k).toInt ≤ (Ge (6 * i + 1 + a)).toInt)) → ∃ k', inS i k' ∧ fT77 Ge Gx i n (a + 1) (nI k) = nI k' ∧ ∀ k'', inS i k'' → (Gx k').toInt < (Gx k'').toInt ∨ ((Gx k').toInt = (Gx k'').toInt ∧ (Ge k').toInt ≤ (Ge k'').toInt) := fun q => by
      refine r_f77 hi n (a + 1) _ (by omega) ⟨k, h1, by omega, rfl, fun k' h4 h5 => ?_⟩
      by_cases q2 : k' = 6 * i + 1 + a
      · rw [q2]; exact q
      · exact h3 k' h4 (by omega)
    by_cases c1 : Gx (6 * i + 1 + a) < Gx k
    · rw [if_pos c1]
      rw [lt_T] at c1
      exact new fun k' h4 h5 => by rcases h3 k' h4 h5 with q | ⟨q, _⟩ <;> exact Or.inl (by omega)
    · rw [if_neg c1]
      rw [lt_T] at c1
      by_cases c2 : Gx (6 * i + 1 + a) = Gx k
      · rw [if_pos c2]
        by_cases c3 : Ge k ≤ Ge (6 * i + 1 + a)
        · rw [if_pos c3]
          rw [le_T] at c3
          exact old (Or.inr ⟨by rw [c2], c3⟩)
        · rw [if_neg c3]
          rw [le_T] at c3
          exact new fun k' h4 h5 => by
            rw [c2]
            rcases h3 k' h4 h5 with q | ⟨q, q2⟩
            · exact Or.inl q
            · exact Or.inr ⟨q, by omega⟩
      · rw [if_neg c2]
        rw [eq_T] at c2
        exact old (Or.inl (by omega))
theorem fT17_pos {Ge Gx : Nat → Int32} {i : Nat} {g : Int32} (h : 0 ≤ g) : ∀ n a, fT17 Ge Gx i n a g = g
  | 0, a => by rw [fT17, if_pos h]
  | n + 1, a => by rw [fT17, if_pos h]
theorem r_f17 {Ge Gx : Nat → Int32} {i : Nat} (hi : i < 4) : ∀ n a, a + n = 6 → (∀ b, b < a → ¬ Ge (6 * i + b) = 0) → (∃ k, inS i k ∧ fT17 Ge Gx i n a (-1) = nI k ∧ Ge k = 0) ∨ ((∀ b, b < 6 → ¬ Ge (6 * i + b) = 0) ∧ fT17 Ge Gx i n a (-1) = fT77 Ge Gx i 5 0 (nI (6 * i)))
  | 0, a, ha, h => Or.inr ⟨fun b hb => h b (by omega), by rw [fT17, if_neg (by decide)]⟩
  | n + 1, a, ha, h => by
    rw [fT17, if_neg (by decide)]
    by_cases c : Ge (6 * i + a) = 0
    · rw [if_pos c, fT17_pos (nI_pos' (by omega))]
      exact Or.inl ⟨6 * i + a, ⟨by omega, by omega⟩, rfl, c⟩
    · rw [if_neg c]
      refine r_f17 hi n (a + 1) (by omega) fun b hb => ?_
      by_cases q : b = a
      · rw [q]; exact c
      · exact h b (by omega)
/-- the zone -/
def rZn (Z : Nat → Nat → Int32) (W Gz Gn : Nat → Int32) : Prop := (∀ j, j < 16 → rT (Z 0 j) (Z 1 j) (Gz j) ∧ (¬ Gz j = 0 → Z 2 j = Gz (16 + j) ∧ ∃ q, 1 ≤ q ∧ q ≤ 1000 ∧ Gz (16 + j) = nI q) ∧ (Gz j < 0 → vp_in ((-1) - Gz j) 16)) ∧ W 3 = Gn 1 ∧ (∃ q, 1 ≤ q ∧ q ≤ 300 ∧ Gn 1 = nI q) ∧ W 4 = Gn 2 ∧ (Gn 2 = 0 ∨ Gn 2 = 1)
theorem rZn.mono {Z : Nat → Nat → Int32} {W Gz Gn Gm : Nat → Int32} (h : rZn Z W Gz Gn) (h1 : Gm 1 = Gn 1) (h2 : Gm 2 = Gn 2) : rZn Z W Gz Gm := by
  unfold rZn
  rw [h1, h2]
  exact h
theorem rZn.wz {Z : Nat → Nat → Int32} {W Gz Gn : Nat → Int32} (h : rZn Z W Gz Gn) : zwz Gz := fun j hj => (h.1 j hj).2.2
theorem r_kind {Z : Nat → Nat → Int32} {W : Nat → Int32} {j : Nat} (hj : j < 16) : fX3_kindOf Z W (nI j) = Z 0 j := by
  unfold fX3_kindOf
  rw [if_neg (r_n0 hj), if_pos (r_n16 hj), r_cl hj]
theorem r_value {Z : Nat → Nat → Int32} {W : Nat → Int32} {j : Nat} (hj : j < 16) : fX3_valueOf Z W (nI j) = Z 1 j := by
  unfold fX3_valueOf
  rw [if_neg (r_n0 hj), if_pos (r_n16 hj), r_cl hj]
theorem rT.k2 {kd val v : Int32} (h : rT kd val v) : kd = 2 ↔ v = 0 := by
  rcases h with ⟨h1, h, _⟩ | ⟨h1, h, _⟩ | ⟨h1, h, _⟩
  · rw [h]
    refine ⟨fun q => absurd q (by decide), fun q => ?_⟩
    rw [q] at h1; exact absurd h1 (by decide)
  · rw [h]
    refine ⟨fun q => absurd q (by decide), fun q => ?_⟩
    rw [q] at h1; exact absurd h1 (by decide)
  · exact ⟨fun _ => h1, fun _ => h⟩
theorem r_16 {j : Nat} (hj : j < 16) : ((16 : Int32) + nI j).toNatClampNeg = 16 + j := by
  show (nI 16 + nI j).toNatClampNeg = _
  rw [nI_add, nI_clamp (by omega)]
theorem r_lf {Gz Gn : Nat → Int32} {j : Nat} (hj : j < 16) : fLf Gz Gn (nI j) = if Gz j = 0 then Gn 1 else Gz (16 + j) := by
  unfold fLf
  rw [r_cl hj, r_16 hj]
theorem r_life {Z : Nat → Nat → Int32} {W Gz Gn : Nat → Int32} (h : rZn Z W Gz Gn) {j : Nat} (hj : j < 16) : fX3_lifeOf Z W (nI j) = fLf Gz Gn (nI j) := by
  rw [r_lf hj]
  unfold fX3_lifeOf
  rw [if_neg (r_n0 hj), if_neg (r_n16' hj), r_cl hj, h.2.1]
  have hk := (h.1 j hj).1.k2
  by_cases e : Gz j = 0
  · rw [if_pos e, if_pos (hk.mpr e)]
  · rw [if_neg e, if_neg (fun q => e (hk.mp q))]
    exact ((h.1 j hj).2.1 e).1
theorem r_lfR {Z : Nat → Nat → Int32} {W Gz Gn : Nat → Int32} (h : rZn Z W Gz Gn) {j : Nat} (hj : j < 16) : ∃ q, 1 ≤ q ∧ q ≤ 1000 ∧ fLf Gz Gn (nI j) = nI q := by
  rw [r_lf hj]
  by_cases e : Gz j = 0
  · rw [if_pos e]
    obtain ⟨q, h1, h2, h3⟩ := h.2.2.1
    exact ⟨q, h1, by omega, h3⟩
  · rw [if_neg e]
    exact ((h.1 j hj).2.1 e).2
/-- the class's put, in the words above -/
theorem r_putD {C : Nat → Nat → Int32} {j : Nat} {kd val lf now : Int32} (hj : j < 16) : fX0_put C (nI j) kd val lf now = if C 0 j = 3 then (if C 5 0 < 6 then va_up (zP C j kd val lf (now + lf)) 5 (fun _ => C 5 0 + 1) else va_up (zP (fX0_drop C (fX0_firstToEnd C)).2 j kd val lf (now + lf)) 5 (fun _ => (fX0_drop C (fX0_firstToEnd C)).2 5 0 + 1)) else zP C j kd val lf (now + lf) := by
  unfold fX0_put fX0_put_s5
  rw [if_neg (r_n0 hj), if_pos (r_n16 hj), r_cl hj]
  rfl
theorem r_has {C : Nat → Nat → Int32} {j : Nat} (hj : j < 16) : fX0_has C (nI j) = if C 0 j = 3 then 0 else 1 := by
  unfold fX0_has
  rw [if_neg (r_n0 hj), if_neg (r_n16' hj), r_cl hj]
theorem r_dropD {C : Nat → Nat → Int32} {b : Nat} (hb : b < 16) : fX0_drop C (nI b) = if C 0 b = 3 then (0, C) else (1, zDr C b) := by
  unfold fX0_drop
  rw [r_has hb, r_cl hb]
  by_cases e : C 0 b = 3
  · rw [if_pos e, if_pos rfl, if_pos e]
  · rw [if_neg e, if_neg (by decide), if_neg e]
    rfl
/-- a fetch on both sides -/
theorem r_fetch {i j : Nat} {X W F O Gz Gn Ge Gv Gl Gx Gh : Nat → Int32} {Z C : Nat → Nat → Int32} (hi : i < 4) (hj : j < 16) (hS : rS i C Ge Gv Gl Gx Gh) (hZ : rZn Z W Gz Gn) (hX : X 3 = Gn 0) :
    ∃ k, inS i k ∧ (Ge k = nI (j + 1) ∨ C 0 j = 3) ∧ fL_fetches Gz Gn Ge Gv Gl Gx Gh i (nI j) = (upd (upd Gn 11 (Gn 11 + 1)) 18 (Gn 18 + 1), upd Ge k (nI (j + 1)), upd Gv k (Gz j), upd Gl k (fLf Gz Gn (nI j)), upd Gx k (Gn 0 + fLf Gz Gn (nI j)), upd Gh k 0) ∧
      rS i (fX4_fetch X Z W C F O (nI j)).1 (upd Ge k (nI (j + 1))) (upd Gv k (Gz j)) (upd Gl k (fLf Gz Gn (nI j))) (upd Gx k (Gn 0 + fLf Gz Gn (nI j))) (upd Gh k 0) ∧ (fX4_fetch X Z W C F O (nI j)).2 = va_up O 3 (O 3 + 1) := by
  have hT := (hZ.1 j hj).1
  have e1 : (fX4_fetch X Z W C F O (nI j)).1 = fX0_put C (nI j) (Z 0 j) (Z 1 j) (fLf Gz Gn (nI j)) (Gn 0) := by
    unfold fX4_fetch fX4_fetch_s1
    rw [r_kind hj, r_value hj, r_life hZ hj, hX]
  have e2 : ∀ k, fTo Ge Gx i (nI j) = k → fL_fetches Gz Gn Ge Gv Gl Gx Gh i (nI j) = (upd (upd Gn 11 (Gn 11 + 1)) 18 (Gn 18 + 1), upd Ge k (nI (j + 1)), upd Gv k (Gz j), upd Gl k (fLf Gz Gn (nI j)), upd Gx k (Gn 0 + fLf Gz Gn (nI j)), upd Gh k 0) := by
    intro k hk
    rw [z_ft, hk]
    unfold fTl
    rw [r_cl hj, nI_1]
  rw [e1, r_putD hj]
  rcases hS.slot hj with ⟨s1, c3⟩ | ⟨k, hk, s1, s2, s3⟩
  · rw [if_pos c3]
    rcases r_f17 (Ge := Ge) (Gx := Gx) hi 6 0 rfl (fun b hb => absurd hb (by omega)) with ⟨k, hk, g1, g2⟩ | ⟨g0, g1⟩
    · have hto : fTo Ge Gx i (nI j) = k := by
        unfold fTo
        rw [s1, g1, nI_clamp (by have := hk.2; omega)]
      have hsz : C 5 0 < 6 := by
        have c6 : cno 0 (sx Ge i) 6 < 6 := cno_lt (d := k - 6 * i) (by have := hk.1; have := hk.2; omega) (by unfold sx; rw [show 6 * i + (k - 6 * i) = k by have := hk.1; omega]; exact g2)
        rw [hS.2.2.2.1, hS.2.2.2.2]
        exact nI_lt (b := 6) c6 (by decide)
      refine ⟨k, hk, Or.inr c3, e2 k hto, ?_, rfl⟩
      rw [if_pos hsz]
      exact hS.putE hj hk hT g2 c3
    · obtain ⟨k, hk, t1, t2⟩ := r_f77 (Ge := Ge) (Gx := Gx) hi 5 0 (nI (6 * i)) rfl ⟨6 * i, Nat.le_refl _, by omega, rfl, fun k' h1 h2 => by rw [show k' = 6 * i by omega]; exact Or.inr ⟨rfl, Int.le_refl _⟩⟩
      have hto : fTo Ge Gx i (nI j) = k := by
        unfold fTo
        rw [s1, g1, t1, nI_clamp (by have := hk.2; omega)]
      have c6 : cno 0 (sx Ge i) 6 = 6 := cno_all fun d hd => g0 d hd
      have hsz : ¬ C 5 0 < 6 := by
        rw [hS.2.2.2.1, hS.2.2.2.2, c6]
        decide
      obtain ⟨b, hb, eb, hbE⟩ := (hS.1 k hk).resolve_left (fun q => g0 (k - 6 * i) (by have := hk.1; have := hk.2; omega) (by rw [show 6 * i + (k - 6 * i) = k by have := hk.1; omega]; exact q))
      have hfe : fX0_firstToEnd C = nI b := by
        rcases r_fe (C := C) 16 0 (-3) rfl (Or.inl ⟨rfl, fun b hb => absurd hb (by omega)⟩) with q | ⟨b2, hb2, u1, u2, u3⟩
        · exact absurd (q b hb) hbE.1.n3
        · show fX0_firstToEnd_L5 C 16 0 (-3) = nI b
          rw [u1]
          obtain ⟨k2, hk2, v1⟩ := hS.2.2.1 b2 hb2 u2
          have v2 := hS.has hb2 hk2 v1
          have w1 := u3 b hb hbE.1.n3
          have w2 := t2 k2 hk2
          rw [hbE.2.2.1, v2.2.2.1] at w1
          rw [eb, v1, nI_toInt (by omega), nI_toInt (by omega)] at w2
          have : b2 = b := by omega
          rw [this]
      rw [if_neg hsz, hfe, r_dropD hb, if_neg hbE.1.n3]
      have hd := hS.drop hb hk eb
      have hne : j ≠ b := fun q => hbE.1.n3 (by rw [← q]; exact c3)
      have hp := hd.putE (kd := Z 0 j) (val := Z 1 j) (v := Gz j) (lf := fLf Gz Gn (nI j)) (en := Gn 0 + fLf Gz Gn (nI j)) hj hk hT (r_us _ _ _) (by show upd (C 0) b 3 j = 3; rw [r_un _ _ hne]; exact c3)
      refine ⟨k, hk, Or.inr c3, e2 k hto, ?_, rfl⟩
      refine hp.congr (fun _ _ _ _ => rfl) rfl (fun k' _ => ?_) (fun _ _ => rfl) (fun _ _ => rfl) (fun _ _ => rfl) (fun _ _ => rfl)
      by_cases q : k' = k
      · rw [q, r_us, r_us]
      · rw [r_un _ _ q, r_un _ _ q, r_un _ _ q]
  · rw [if_neg s3.1.n3]
    have hto : fTo Ge Gx i (nI j) = k := by
      unfold fTo
      rw [s1, fT17_pos (nI_pos' (by have := hk.2; omega)), nI_clamp (by have := hk.2; omega)]
    exact ⟨k, hk, Or.inl s2, e2 k hto, hS.putR hj hk hT s2, rfl⟩
