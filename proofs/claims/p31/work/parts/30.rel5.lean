/-! RELATION: what is fetched anew; a query of a site -/
def rV (i : Nat) (E Y H F U En : Nat → Int32) (k : Nat) : Prop := ∃ j, j < 16 ∧ F k = nI j ∧ U k = nI j ∧ ((∀ s, inS i s → ¬ E s = nI (j + 1)) ∨ ∃ s, inS i s ∧ E s = nI (j + 1) ∧ (Y s = En k ∨ ∃ q, H s = nI q ∧ q ≤ 2))
theorem rU.v {i a : Nat} {t0 : Int32} {E Y H F U En : Nat → Int32} {k : Nat} (h : rU i a t0 E Y H F U En k) (ha : a ≤ 5) : rV i E Y H F U En k := by
  obtain ⟨j, hj, f, u, h⟩ := h
  exact ⟨j, hj, f, u, h.imp (fun h => h.1) (fun ⟨s, h1, h2, _, h4⟩ => ⟨s, h1, h2, h4.imp id (fun ⟨q, h5, h6⟩ => ⟨q, h5, by omega⟩)⟩)⟩
theorem rV.anew {i t j0 : Nat} {y' : Int32} {E Y H F U En : Nat → Int32} {k : Nat} (h : rV i E Y H F U En k) (ht : inS i t) (he : E t = nI (j0 + 1)) : rV i (upd E t (nI (j0 + 1))) (upd Y t y') (upd H t 0) F U En k := by
  obtain ⟨j, hj, f, u, h⟩ := h
  refine ⟨j, hj, f, u, h.imp (fun h1 s hs => ?_) (fun ⟨s, h1, h2, h4⟩ => ⟨s, h1, ?_, ?_⟩)⟩
  · by_cases q : s = t
    · rw [q, r_us, ← he]; exact h1 t ht
    · rw [r_un _ _ q]; exact h1 s hs
  · by_cases q : s = t
    · rw [q, r_us, ← he, ← q]; exact h2
    · rw [r_un _ _ q]; exact h2
  · by_cases q : s = t
    · exact Or.inr ⟨0, by rw [q, r_us]; exact nI_0.symm, by omega⟩
    · rw [r_un _ _ q, r_un _ _ q]; exact h4
theorem r_3 {x : Int32} : (x ≤ 2 ↔ x < 3) := by
  rw [lt_T, le_T]
  have e2 : (2 : Int32).toInt = 2 := rfl
  have e3 : (3 : Int32).toInt = 3 := rfl
  omega
theorem L269_off {Gz Gn Ge Gv Gl Gx Gh N E V L Y H U En : Nat → Int32} {i : Nat} {x mn an : Int32} (h : ¬ N 2 = 1) : ∀ n a, fL_resolves_L269 Gz Gn Ge Gv Gl Gx Gh i x n a mn an N E V L Y H U En = (an, N, E, V, L, Y, H)
  | 0, a => by rw [fL_resolves_L269]
  | n + 1, a => by rw [fL_resolves_L269, if_neg h]; exact L269_off h n (a + 1)
/-- after the look-ups: what is left to do depends on the names used fresh -/
def rP (i a m : Nat) (X W Gz Gn Ge Gv Gl Gx Gh : Nat → Int32) (Z C : Nat → Nat → Int32) (F O N E V L Y H U En : Nat → Int32) : Prop :=
  rS i C E V L Y H ∧ rZn Z W Gz N ∧ X 3 = N 0 ∧ zwV V ∧ rN a Gn O N ∧ rO i E V L Y H Ge Gv Gl Gx Gh ∧ O 1 = nI m ∧ ∀ k, k < m → rV i E Y H F U En k
theorem r_fna {F O : Nat → Int32} {a m : Nat} (hm : m ≤ 5) (ha : a < m) (h : O 1 = nI m) : fX1_freshNameAt F O (nI a) = F a := by
  unfold fX1_freshNameAt
  rw [if_neg (nI_pos (by omega)), h, if_neg (nI_ge ha (by omega)), if_pos (show nI a < 5 from nI_lt (b := 5) (by omega) (by decide)), nI_clamp (by omega)]
theorem r_anew {i b m : Nat} {X W Gz Gn Ge Gv Gl Gx Gh F O0 U En : Nat → Int32} {Z C0 : Nat → Nat → Int32} {x mn an : Int32} (hi : i < 4) (hm : m ≤ 5) : ∀ (n a : Nat) (C : Nat → Nat → Int32) (O N E V L Y H : Nat → Int32), a + n = m → N 2 = 1 → rP i b m X W Gz Gn Ge Gv Gl Gx Gh Z C F O N E V L Y H U En →
    ∃ (C' : Nat → Nat → Int32) (O' N' E' V' L' Y' H' : Nat → Int32), fX4_fetchHotAnew_L19 X Z W C0 F O0 n a C O = (C', O') ∧ fL_resolves_L269 Gz Gn Ge Gv Gl Gx Gh i x n a mn an N E V L Y H U En = (an, N', E', V', L', Y', H') ∧ rP i b m X W Gz Gn Ge Gv Gl Gx Gh Z C' F O' N' E' V' L' Y' H' U En
  | 0, a, C, O, N, E, V, L, Y, H, ha, h2, h => ⟨C, O, N, E, V, L, Y, H, by rw [fX4_fetchHotAnew_L19], by rw [fL_resolves_L269], h⟩
  | n + 1, a, C, O, N, E, V, L, Y, H, ha, h2, h => by
    obtain ⟨hS, hZ, hX, hV, hN, hO, e1, hu⟩ := id h
    obtain ⟨j, hj, f, u, hc⟩ := hu a (by omega)
    rw [fX4_fetchHotAnew_L19, fL_resolves_L269, if_pos h2, r_fna hm (by omega) e1, f, u, r_hot hj]
    have nx := r_anew (x := x) (mn := mn) (an := an) (O0 := O0) (C0 := C0) hi hm n (a + 1) C O N E V L Y H (by omega) h2 h
    rcases hS.slot hj with ⟨s1, c3⟩ | ⟨s, hs, s1, s2, s3⟩
    · have hlt : fL_slot E i (nI j) < 0 := by rw [s1]; decide
      rw [if_pos hlt, if_pos c3, if_pos rfl]
      exact nx
    · have hge : ¬ fL_slot E i (nI j) < 0 := by rw [s1]; exact nI_pos (by have := hs.2; omega)
      have hcl : (fL_slot E i (nI j)).toNatClampNeg = s := by rw [s1]; exact nI_clamp (by have := hs.2; omega)
      rw [if_neg hge, hcl, if_neg s3.1.n3, s3.2.2.2, s3.2.1, s3.2.2.1, hX]
      by_cases c1 : H s < 3
      · rw [if_pos c1, if_pos rfl]
        by_cases c2 : Y s = En a
        · rw [if_pos c2, if_pos (r_3.mpr c1)]; exact nx
        · rw [if_neg c2]; exact nx
      · have c2 : Y s = En a := by
          rcases hc with q | ⟨s', hs', q1, q2⟩
          · exact absurd s2 (q s hs)
          · have es : s' = s := hS.2.1 s' s hs' hs (q1.trans s2.symm) (by rw [q1]; exact r_j1 hj)
            subst es
            rcases q2 with q2 | ⟨q, q3, q4⟩
            · exact q2
            · exact absurd (show H s' < 3 by rw [q3]; exact nI_lt (b := 3) (by omega) (by decide)) c1
        rw [if_neg c1, if_pos c2, if_neg (fun q => c1 (r_3.mp q))]
        by_cases c4 : L s < 4 * (Y s - N 0)
        · rw [if_pos c4, if_pos c4, if_pos rfl]; exact nx
        · rw [if_neg c4, if_neg c4, if_neg (by decide)]
          obtain ⟨k, hk, hc2, g1, g2, g3⟩ := r_fetch (X := X) (W := W) (F := F) (O := O) (Gn := N) hi hj hS hZ hX
          have hek : E k = nI (j + 1) := hc2.resolve_right s3.1.n3
          rw [g1]
          have g4 : fX4_fetch X Z W C F O (nI j) = ((fX4_fetch X Z W C F O (nI j)).1, va_up O 3 (O 3 + 1)) := Prod.ext rfl g3
          rw [g4]
          dsimp only
          refine r_anew hi hm n (a + 1) _ _ _ _ _ _ _ _ (by omega) ?_ ⟨g2, ?_, ?_, ?_, ?_, hO.set hk, ?_, fun k' hk' => (hu k' hk').anew hk hek⟩
          · rw [r_un _ _ (by decide), r_un _ _ (by decide), r_un _ _ (by decide)]; exact h2
          · exact hZ.mono (by rw [r_un _ _ (by decide), r_un _ _ (by decide), r_un _ _ (by decide)]) (by rw [r_un _ _ (by decide), r_un _ _ (by decide), r_un _ _ (by decide)])
          · rw [r_un _ _ (by decide), r_un _ _ (by decide), r_un _ _ (by decide)]; exact hX
          · intro t
            by_cases q : t = k
            · rw [q, r_us]; exact fun h0 => (hZ.1 j hj).2.2 h0
            · rw [r_un _ _ q]; exact hV t
          · exact hN.fet.anew
          · rw [va_up_ne _ _ (by decide), va_up_ne _ _ (by decide)]; exact e1
/-- a query at a site, before its counting -/
theorem r_ask {i j : Nat} {X W Gz Gn Ge Gv Gl Gx Gh F O : Nat → Int32} {Z C : Nat → Nat → Int32} (hi : i < 4) (hj : j < 16) (hS : rS i C Ge Gv Gl Gx Gh) (hZ : rZn Z W Gz Gn) (hX : X 3 = Gn 0) (hV : zwV Gv) (ht : ∃ t, t ≤ 100000 ∧ Gn 0 = nI t) :
    ∃ (an : Int32) (C1 : Nat → Nat → Int32) (F1 O1 : Nat → Int32) (C2 : Nat → Nat → Int32) (O2 N E V L Y H : Nat → Int32) (a : Nat), fX4_resolve X Z W C F O (nI j) = (an, C1, F1, O1) ∧ fX4_fetchHotAnew X Z W C1 F1 O1 = (C2, O2) ∧ fL_resolves Gz Gn Ge Gv Gl Gx Gh i (nI j) = (an, N, E, V, L, Y, H) ∧
      rS i C2 E V L Y H ∧ zwV V ∧ rN a Gn O2 N ∧ rO i E V L Y H Ge Gv Gl Gx Gh := by
  have h0 : rQ i 0 X W Gz Gn Ge Gv Gl Gx Gh Z C F (fX1_begin F O) (upd (upd (upd Gn 16 0) 17 0) 18 0) Ge Gv Gl Gx Gh (fun _ => 0) (fun _ => 0) 0 := by
    refine ⟨hS, hZ.mono ?_ ?_, ?_, hV, ⟨?_, ?_, ?_, ?_, ?_, ?_, ?_, fun k hk => ?_⟩, fun k hk => ⟨rfl, rfl, rfl, rfl, rfl⟩, 0, Nat.le_refl _, nI_0.symm, ?_, fun k hk => absurd hk (Nat.not_lt_zero k)⟩
    · rw [r_un _ _ (by decide), r_un _ _ (by decide), r_un _ _ (by decide)]
    · rw [r_un _ _ (by decide), r_un _ _ (by decide), r_un _ _ (by decide)]
    · rw [r_un _ _ (by decide), r_un _ _ (by decide), r_un _ _ (by decide)]; exact hX
    · exact nI_0.symm
    · exact nI_0.symm
    · rfl
    · rfl
    · exact Or.inl rfl
    · show Gn 11 = Gn 11 + 0
      exact (Int32.add_zero _).symm
    · show Gn 12 = Gn 12 + 0
      exact (Int32.add_zero _).symm
    · rw [r_un _ _ (by omega), r_un _ _ (by omega), r_un _ _ (by omega)]
    · exact nI_0.symm
  obtain ⟨an, C1, F1, O1, N, E, V, L, Y, H, U, En, mn, g1, g2, a, ha1, ha5, q1, q2, q3, q4, q5, q6, m, hm, e1, e2, hu⟩ := r_res (x := nI j) (C0 := C) (F0 := F) (O0 := O) hi ht 5 0 j C F (fX1_begin F O) _ _ _ _ _ _ _ _ _ rfl (fun h => absurd h (by decide)) hj h0
  have hp : rP i a m X W Gz Gn Ge Gv Gl Gx Gh Z C1 F1 O1 N E V L Y H U En := ⟨q1, q2, q3, q4, q5, q6, e2, fun k hk => (hu k hk).v ha5⟩
  have hmc : mn.toNatClampNeg = m := by rw [e1, nI_clamp (by omega)]
  have g3 : fX4_resolve X Z W C F O (nI j) = (an, C1, F1, O1) := g1
  have g4 : fL_resolves Gz Gn Ge Gv Gl Gx Gh i (nI j) = fL_resolves_L269 Gz Gn Ge Gv Gl Gx Gh i (nI j) m 0 mn an N E V L Y H U En := by rw [← hmc]; exact g2
  rcases r_W4 q2 with ⟨w1, w2⟩ | ⟨w1, w2⟩
  · obtain ⟨C2, O2, N2, E2, V2, L2, Y2, H2, k1, k2, k3⟩ := r_anew (x := nI j) (mn := mn) (an := an) (O0 := O1) (C0 := C1) hi (by omega) m 0 C1 O1 N E V L Y H (by omega) w1 hp
    refine ⟨an, C1, F1, O1, C2, O2, N2, E2, V2, L2, Y2, H2, a, g3, ?_, g4.trans k2, k3.1, k3.2.2.2.1, k3.2.2.2.2.1, k3.2.2.2.2.2.1⟩
    unfold fX4_fetchHotAnew
    rw [if_neg w2, e2, nI_clamp (by omega)]
    exact k1
  · refine ⟨an, C1, F1, O1, C1, O1, N, E, V, L, Y, H, a, g3, ?_, ?_, q1, q4, q5, q6⟩
    · unfold fX4_fetchHotAnew
      rw [if_pos w2]
    · rw [g4]; exact L269_off w1 m 0
