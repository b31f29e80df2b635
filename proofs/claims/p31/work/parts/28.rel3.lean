/-! RELATION: a query under way -/
def rU (i a : Nat) (t0 : Int32) (E Y H F U En : Nat → Int32) (k : Nat) : Prop := ∃ j, j < 16 ∧ F k = nI j ∧ U k = nI j ∧ (((∀ s, inS i s → ¬ E s = nI (j + 1)) ∧ 2 ≤ a) ∨ ∃ s, inS i s ∧ E s = nI (j + 1) ∧ t0 < Y s ∧ (Y s = En k ∨ ∃ q, H s = nI q ∧ q + 3 ≤ a))
theorem rU.mono {i a : Nat} {t0 : Int32} {E Y H F U En : Nat → Int32} {k : Nat} (h : rU i a t0 E Y H F U En k) : rU i (a + 1) t0 E Y H F U En k := by
  obtain ⟨j, hj, f, u, h⟩ := h
  refine ⟨j, hj, f, u, h.imp (fun ⟨h1, h2⟩ => ⟨h1, by omega⟩) (fun ⟨s, h1, h2, h3, h4⟩ => ⟨s, h1, h2, h3, h4.imp id (fun ⟨q, h5, h6⟩ => ⟨q, h5, by omega⟩)⟩)⟩
theorem rU.hit {i a s0 : Nat} {t0 : Int32} {E Y H F U En : Nat → Int32} {k : Nat} (h : rU i a t0 E Y H F U En k) : rU i (a + 1) t0 E Y (upd H s0 (H s0 + 1)) F U En k := by
  obtain ⟨j, hj, f, u, h⟩ := h
  refine ⟨j, hj, f, u, h.imp (fun ⟨h1, h2⟩ => ⟨h1, by omega⟩) (fun ⟨s, h1, h2, h3, h4⟩ => ⟨s, h1, h2, h3, h4.imp id (fun ⟨q, h5, h6⟩ => ?_)⟩)⟩
  by_cases e : s = s0
  · refine ⟨q + 1, ?_, by omega⟩
    rw [← e, r_us, h5, nI_1]
  · exact ⟨q, by rw [r_un _ _ e]; exact h5, by omega⟩
theorem rU.congr {i a : Nat} {t0 : Int32} {E Y H F U En F' U' En' : Nat → Int32} {k : Nat} (h : rU i a t0 E Y H F U En k) (hF : F' k = F k) (hU : U' k = U k) (hE : En' k = En k) : rU i a t0 E Y H F' U' En' k := by
  unfold rU
  rw [hF, hU, hE]
  exact h
theorem rU.fetch {i a t j0 : Nat} {t0 y' : Int32} {E Y H F U En : Nat → Int32} {k : Nat} (h : rU i a t0 E Y H F U En k) (hj0 : j0 < 16) (ht : inS i t) (hu : ∀ k k', inS i k → inS i k' → E k = E k' → ¬ E k = 0 → k = k') (hn : ∀ s, inS i s → E s = nI (j0 + 1) → ¬ t0 < Y s) (hy : t0 < y') (ha : 1 ≤ a) :
    rU i (a + 1) t0 (upd E t (nI (j0 + 1))) (upd Y t y') (upd H t 0) F U En k := by
  obtain ⟨j, hj, f, u, h⟩ := h
  refine ⟨j, hj, f, u, ?_⟩
  by_cases e : j = j0
  · subst e
    rcases h with ⟨-, h2⟩ | ⟨s, h1, h2, h3, -⟩
    · exact Or.inr ⟨t, ht, r_us _ _ _, by rw [r_us]; exact hy, Or.inr ⟨0, by rw [r_us]; exact nI_0.symm, by omega⟩⟩
    · exact absurd h3 (hn s h1 h2)
  · have hne : ¬ nI (j0 + 1) = nI (j + 1) := fun q => e (r_jj hj0 hj q).symm
    rcases h with ⟨h1, h2⟩ | ⟨s, h1, h2, h3, h4⟩
    · refine Or.inl ⟨fun s hs => ?_, by omega⟩
      by_cases q : s = t
      · rw [q, r_us]; exact hne
      · rw [r_un _ _ q]; exact h1 s hs
    · by_cases q : s = t
      · refine Or.inl ⟨fun s' hs' => ?_, by omega⟩
        by_cases q2 : s' = t
        · rw [q2, r_us]; exact hne
        · rw [r_un _ _ q2]
          exact fun q3 => q2 ((hu s' s hs' h1 (q3.trans h2.symm) (by rw [q3]; exact r_j1 hj)).trans q)
      · exact Or.inr ⟨s, h1, by rw [r_un _ _ q]; exact h2, by rw [r_un _ _ q]; exact h3, by rw [r_un _ _ q, r_un _ _ q]; exact h4.imp id (fun ⟨q, h5, h6⟩ => ⟨q, h5, by omega⟩)⟩
/-- the numbers -/
def rN (a : Nat) (Gn O N : Nat → Int32) : Prop := O 2 = nI a ∧ N 17 = nI a ∧ O 3 = N 18 ∧ O 5 = N 16 ∧ (N 16 = 0 ∨ N 16 = 1) ∧ N 11 = Gn 11 + O 3 ∧ N 12 = Gn 12 + O 4 ∧ ∀ k, (k < 11 ∨ (12 < k ∧ k < 16) ∨ 18 < k) → N k = Gn k
theorem rN.look {a : Nat} {Gn O N : Nat → Int32} (h : rN a Gn O N) : rN (a + 1) Gn (va_up O 2 (O 2 + 1)) (upd N 17 (N 17 + 1)) := by
  obtain ⟨h1, h2, h3, h4, h5, h6, h7, h8⟩ := h
  refine ⟨?_, ?_, ?_, ?_, ?_, ?_, ?_, fun k hk => ?_⟩
  · rw [va_up_self, h1, nI_1]
  · rw [r_us, h2, nI_1]
  · rw [va_up_ne _ _ (by decide), r_un _ _ (by decide)]; exact h3
  · rw [va_up_ne _ _ (by decide), r_un _ _ (by decide)]; exact h4
  · rw [r_un _ _ (by decide)]; exact h5
  · rw [va_up_ne _ _ (by decide), r_un _ _ (by decide)]; exact h6
  · rw [va_up_ne _ _ (by decide), r_un _ _ (by decide)]; exact h7
  · rw [r_un _ _ (by omega)]; exact h8 k hk
theorem rN.fet {a : Nat} {Gn O N : Nat → Int32} (h : rN a Gn O N) : rN a Gn (va_up O 3 (O 3 + 1)) (upd (upd N 11 (N 11 + 1)) 18 (N 18 + 1)) := by
  obtain ⟨h1, h2, h3, h4, h5, h6, h7, h8⟩ := h
  refine ⟨?_, ?_, ?_, ?_, ?_, ?_, ?_, fun k hk => ?_⟩
  · rw [va_up_ne _ _ (by decide)]; exact h1
  · rw [r_un _ _ (by decide), r_un _ _ (by decide)]; exact h2
  · rw [va_up_self, r_us, h3]
  · rw [va_up_ne _ _ (by decide), r_un _ _ (by decide), r_un _ _ (by decide)]; exact h4
  · rw [r_un _ _ (by decide), r_un _ _ (by decide)]; exact h5
  · rw [va_up_self, r_un _ _ (by decide), r_us, h6, Int32.add_assoc]
  · rw [va_up_ne _ _ (by decide), r_un _ _ (by decide), r_un _ _ (by decide)]; exact h7
  · rw [r_un _ _ (by omega), r_un _ _ (by omega)]; exact h8 k hk
theorem rN.stale {a : Nat} {Gn O N : Nat → Int32} (h : rN a Gn O N) : rN a Gn (va_up O 5 1) (upd N 16 1) := by
  obtain ⟨h1, h2, h3, h4, h5, h6, h7, h8⟩ := h
  refine ⟨?_, ?_, ?_, ?_, ?_, ?_, ?_, fun k hk => ?_⟩
  · rw [va_up_ne _ _ (by decide)]; exact h1
  · rw [r_un _ _ (by decide)]; exact h2
  · rw [va_up_ne _ _ (by decide), r_un _ _ (by decide)]; exact h3
  · rw [va_up_self, r_us]
  · rw [r_us]; exact Or.inr rfl
  · rw [va_up_ne _ _ (by decide), r_un _ _ (by decide)]; exact h6
  · rw [va_up_ne _ _ (by decide), r_un _ _ (by decide)]; exact h7
  · rw [r_un _ _ (by omega)]; exact h8 k hk
theorem rN.note {a : Nat} {Gn O N : Nat → Int32} {v : Int32} (h : rN a Gn O N) : rN a Gn (va_up O 1 v) N := by
  obtain ⟨h1, h2, h3, h4, h5, h6, h7, h8⟩ := h
  exact ⟨by rw [va_up_ne _ _ (by decide)]; exact h1, h2, by rw [va_up_ne _ _ (by decide)]; exact h3, by rw [va_up_ne _ _ (by decide)]; exact h4, h5, by rw [va_up_ne _ _ (by decide)]; exact h6, by rw [va_up_ne _ _ (by decide)]; exact h7, h8⟩
theorem rN.anew {a : Nat} {Gn O N : Nat → Int32} (h : rN a Gn O N) : rN a Gn (va_up O 4 (O 4 + 1)) (upd N 12 (N 12 + 1)) := by
  obtain ⟨h1, h2, h3, h4, h5, h6, h7, h8⟩ := h
  refine ⟨?_, ?_, ?_, ?_, ?_, ?_, ?_, fun k hk => ?_⟩
  · rw [va_up_ne _ _ (by decide)]; exact h1
  · rw [r_un _ _ (by decide)]; exact h2
  · rw [va_up_ne _ _ (by decide), r_un _ _ (by decide)]; exact h3
  · rw [va_up_ne _ _ (by decide), r_un _ _ (by decide)]; exact h4
  · rw [r_un _ _ (by decide)]; exact h5
  · rw [va_up_ne _ _ (by decide), r_un _ _ (by decide)]; exact h6
  · rw [va_up_self, r_us, h7, Int32.add_assoc]
  · rw [r_un _ _ (by omega)]; exact h8 k hk
/-- the other sites' slots -/
def rO (i : Nat) (E V L Y H Ge Gv Gl Gx Gh : Nat → Int32) : Prop := ∀ k, ¬ inS i k → E k = Ge k ∧ V k = Gv k ∧ L k = Gl k ∧ Y k = Gx k ∧ H k = Gh k
theorem rO.set {i t : Nat} {E V L Y H Ge Gv Gl Gx Gh : Nat → Int32} (h : rO i E V L Y H Ge Gv Gl Gx Gh) (ht : inS i t) {e v l y z : Int32} : rO i (upd E t e) (upd V t v) (upd L t l) (upd Y t y) (upd H t z) Ge Gv Gl Gx Gh := by
  intro k hk
  have q : k ≠ t := fun q => hk (by rw [q]; exact ht)
  rw [r_un _ _ q, r_un _ _ q, r_un _ _ q, r_un _ _ q, r_un _ _ q]
  exact h k hk
theorem rO.hit {i t : Nat} {E V L Y H Ge Gv Gl Gx Gh : Nat → Int32} (h : rO i E V L Y H Ge Gv Gl Gx Gh) (ht : inS i t) {z : Int32} : rO i E V L Y (upd H t z) Ge Gv Gl Gx Gh := by
  intro k hk
  have q : k ≠ t := fun q => hk (by rw [q]; exact ht)
  rw [r_un _ _ q]
  exact h k hk
/-- a query under way, a names looked up, mn of them fresh -/
def rQ (i a : Nat) (X W Gz Gn Ge Gv Gl Gx Gh : Nat → Int32) (Z C : Nat → Nat → Int32) (F O N E V L Y H U En : Nat → Int32) (mn : Int32) : Prop :=
  rS i C E V L Y H ∧ rZn Z W Gz N ∧ X 3 = N 0 ∧ zwV V ∧ rN a Gn O N ∧ rO i E V L Y H Ge Gv Gl Gx Gh ∧
  ∃ m, m ≤ a ∧ mn = nI m ∧ O 1 = nI m ∧ ∀ k, k < m → rU i a (N 0) E Y H F U En k
theorem r_fr {C : Nat → Nat → Int32} {j : Nat} {x : Int32} (hj : j < 16) : fX0_isFresh C (nI j) x = if C 0 j = 3 then 0 else if C 3 j ≤ x then 0 else 1 := by
  unfold fX0_isFresh
  rw [r_has hj, r_cl hj]
  by_cases e : C 0 j = 3
  · rw [if_pos e, if_pos rfl, if_pos e]
  · rw [if_neg e, if_neg (by decide), if_neg e]
theorem r_st {C : Nat → Nat → Int32} {j : Nat} {x : Int32} (hj : j < 16) : fX0_servesStale C (nI j) x = if C 0 j = 3 then 0 else if 100 ≤ x - C 3 j then 0 else 1 := by
  unfold fX0_servesStale
  rw [r_has hj, r_cl hj]
  by_cases e : C 0 j = 3
  · rw [if_pos e, if_pos rfl, if_pos e]
  · rw [if_neg e, if_neg (by decide), if_neg e]
theorem r_hot {C : Nat → Nat → Int32} {j : Nat} {x : Int32} (hj : j < 16) : fX0_isHot C (nI j) x = if C 0 j = 3 then 0 else if C 4 j < 3 then 0 else if C 2 j < 4 * (C 3 j - x) then 0 else 1 := by
  unfold fX0_isHot
  rw [r_has hj, r_cl hj]
  by_cases e : C 0 j = 3
  · rw [if_pos e, if_pos rfl, if_pos e]
  · rw [if_neg e, if_neg (by decide), if_neg e]
theorem r_hit {C : Nat → Nat → Int32} {j : Nat} (hj : j < 16) (e : ¬ C 0 j = 3) : fX0_countHit C (nI j) = va_up C 4 (upd (C 4) j (C 4 j + 1)) := by
  unfold fX0_countHit
  rw [r_has hj, r_cl hj, if_neg e, if_neg (by decide)]
theorem r_kO {C : Nat → Nat → Int32} {j : Nat} (hj : j < 16) : fX0_kindOf C (nI j) = C 0 j := by
  unfold fX0_kindOf
  rw [r_has hj, r_cl hj]
  by_cases e : C 0 j = 3
  · rw [if_pos e, if_pos rfl, e]
  · rw [if_neg e, if_neg (by decide)]
theorem r_vO {C : Nat → Nat → Int32} {j : Nat} (hj : j < 16) : fX0_valueOf C (nI j) = if C 0 j = 3 then (-3) else C 1 j := by
  unfold fX0_valueOf
  rw [r_has hj, r_cl hj]
  by_cases e : C 0 j = 3
  · rw [if_pos e, if_pos rfl, if_pos e]
  · rw [if_neg e, if_neg (by decide), if_neg e]
/-- a hit on both sides -/
theorem rS.hit {i : Nat} {C : Nat → Nat → Int32} {Ge Gv Gl Gx Gh : Nat → Int32} (h : rS i C Ge Gv Gl Gx Gh) {j k : Nat} (hj : j < 16) (hk : inS i k) (e : Ge k = nI (j + 1)) : rS i (va_up C 4 (upd (C 4) j (C 4 j + 1))) Ge Gv Gl Gx (upd Gh k (Gh k + 1)) := by
  refine ⟨fun k' hk' => ?_, h.2.1, h.2.2.1, h.2.2.2.1, h.2.2.2.2⟩
  refine (h.1 k' hk').imp id (fun ⟨j', hj', e', g⟩ => ⟨j', hj', e', g.1, g.2.1, g.2.2.1, ?_⟩)
  show upd (C 4) j (C 4 j + 1) j' = upd Gh k (Gh k + 1) k'
  by_cases q : k' = k
  · have : j' = j := r_jj hj' hj (by rw [← e', q, e])
    subst this
    rw [q, r_us, r_us, (h.has hj hk e).2.2.2]
  · have : j' ≠ j := fun q2 => q (h.2.1 k' k hk' hk (by rw [e', e, q2]) (by rw [e']; exact r_j1 hj'))
    rw [r_un _ _ q, r_un _ _ this]
    exact g.2.2.2
theorem r_now {t q : Nat} (ht : t ≤ 100000) (h1 : 1 ≤ q) (h2 : q ≤ 1000) : nI t < nI t + nI q := by
  rw [nI_add]
  exact nI_lt (by omega) (by omega)
