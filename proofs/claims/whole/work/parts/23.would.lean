theorem rK.pt {n : Nat} {Cs : Nat → Nat → Nat → Int32} {R R' : Nat → Nat → Int32} (hn : n ≤ 4) (h : rK n Cs R) (e : ∀ r q, 6 ≤ r → r ≤ 10 → q < 64 → R' r q = R r q) : rK n Cs R' := by
  refine ⟨⟨fun q hq h1 => ?_, fun q hq => ?_⟩, fun i hi => ⟨fun r hr j hj => ?_, (h.2.1 i hi).2⟩, fun q h1 h2 => ?_⟩
  · rw [e 6 q (by decide) (by decide) hq] at h1
    rw [e 7 q (by decide) (by decide) hq]
    exact h.1.1 q hq h1
  · rw [e 6 q (by decide) (by decide) hq, e 7 q (by decide) (by decide) hq]
    exact h.1.2 q hq
  · rw [e (6 + r) (16 * i + j) (by omega) (by omega) (by omega)]
    exact (h.2.1 i hi).1 r hr j hj
  · rw [e 6 q (by decide) (by decide) h2, e 7 q (by decide) (by decide) h2, e 8 q (by decide) (by decide) h2, e 9 q (by decide) (by decide) h2, e 10 q (by decide) (by decide) h2]
    exact h.2.2 q h1 h2
/-- one place kept; one put back -/
def zU (R : Nat → Nat → Int32) (i a : Nat) : Nat → Nat → Int32 := va_up (va_up (va_up (va_up (va_up R 12 (upd (R 12) a (R 6 (16 * i + a)))) 13 (upd (R 13) a (R 7 (16 * i + a)))) 14 (upd (R 14) a (R 8 (16 * i + a)))) 15 (upd (R 15) a (R 9 (16 * i + a)))) 16 (upd (R 16) a (R 10 (16 * i + a)))
def zV (R : Nat → Nat → Int32) (i a : Nat) : Nat → Nat → Int32 := va_up (va_up (va_up (va_up (va_up R 6 (upd (R 6) (16 * i + a) (R 12 a))) 7 (upd (R 7) (16 * i + a) (R 13 a))) 8 (upd (R 8) (16 * i + a) (R 14 a))) 9 (upd (R 9) (16 * i + a) (R 15 a))) 10 (upd (R 10) (16 * i + a) (R 16 a))
theorem zU_lo {R : Nat → Nat → Int32} {i a r : Nat} (h : r < 12) : zU R i a r = R r := by
  unfold zU
  rw [va_up_ne _ _ (by omega), va_up_ne _ _ (by omega), va_up_ne _ _ (by omega), va_up_ne _ _ (by omega), va_up_ne _ _ (by omega)]
theorem zU_hi {R : Nat → Nat → Int32} {i a m : Nat} (h : m < 5) (k : Nat) : zU R i a (12 + m) k = if k = a then R (6 + m) (16 * i + a) else R (12 + m) k := by
  rcases (show m = 0 ∨ m = 1 ∨ m = 2 ∨ m = 3 ∨ m = 4 by omega) with rfl | rfl | rfl | rfl | rfl <;> rfl
theorem zV_o {R : Nat → Nat → Int32} {i a r : Nat} (h : r < 6 ∨ 10 < r) : zV R i a r = R r := by
  unfold zV
  rw [va_up_ne _ _ (by omega), va_up_ne _ _ (by omega), va_up_ne _ _ (by omega), va_up_ne _ _ (by omega), va_up_ne _ _ (by omega)]
theorem zV_i {R : Nat → Nat → Int32} {i a m : Nat} (h : m < 5) (q : Nat) : zV R i a (6 + m) q = if q = 16 * i + a then R (12 + m) a else R (6 + m) q := by
  rcases (show m = 0 ∨ m = 1 ∨ m = 2 ∨ m = 3 ∨ m = 4 by omega) with rfl | rfl | rfl | rfl | rfl <;> rfl
theorem w44 {I : Nat → Int32} {R : Nat → Nat → Int32} {x1 x2 : Int32} {i : Nat} (hi : i < 4) (hN : fX5_nearest ((fX5_canAsk I R x1 x2).2) R x1 = nI i) : ∀ (n a : Nat) (R1 : Nat → Nat → Int32), a + n = 16 → (∀ r, r < 12 → R1 r = R r) → (∀ m k, m < 5 → k < a → R1 (12 + m) k = R (6 + m) (16 * i + k)) →
    ∃ R2, (∀ r, r < 12 → R2 r = R r) ∧ (∀ m k, m < 5 → k < 16 → R2 (12 + m) k = R (6 + m) (16 * i + k)) ∧ fX5_wouldAnswer_L44 I R x1 x2 n a R1 = fX5_wouldAnswer_L168 I R x1 x2 16 0 ((fX5_resolve (va_up ((fX5_canAsk I R x1 x2).2) 25 0) R2 (nI i) x2).1) ((fX5_resolve (va_up ((fX5_canAsk I R x1 x2).2) 25 0) R2 (nI i) x2).2.1) ((fX5_resolve (va_up ((fX5_canAsk I R x1 x2).2) 25 0) R2 (nI i) x2).2.2)
  | 0, a, R1, ha, h1, h2 => ⟨R1, h1, fun m k hm hk => h2 m k hm (by omega), by rw [fX5_wouldAnswer_L44, hN]⟩
  | n + 1, a, R1, ha, h1, h2 => by
    have e : fX5_wouldAnswer_L44 I R x1 x2 (n + 1) a R1 = fX5_wouldAnswer_L44 I R x1 x2 n (a + 1) (zU R1 i a) := by
      rw [fX5_wouldAnswer_L44, hN, r_ix hi (by omega), r_cl (by omega)]
      rfl
    rw [e]
    refine w44 hi hN n (a + 1) _ (by omega) (fun r hr => (zU_lo hr).trans (h1 r hr)) (fun m k hm hk => ?_)
    rw [zU_hi hm]
    by_cases q : k = a
    · rw [if_pos q, q, h1 (6 + m) (by omega)]
    · rw [if_neg q]
      exact h2 m k hm (by omega)
theorem w168 {I : Nat → Int32} {R : Nat → Nat → Int32} {x1 x2 : Int32} {i : Nat} (hi : i < 4) (hN : fX5_nearest ((fX5_canAsk I R x1 x2).2) R x1 = nI i) {ans : Int32} {I2 : Nat → Int32} : ∀ (n a : Nat) (R2 : Nat → Nat → Int32), a + n = 16 →
    ∃ R3, fX5_wouldAnswer_L168 I R x1 x2 n a ans I2 R2 = (ans, va_up (va_up (va_up (va_up I2 16 ((fX5_canAsk I R x1 x2).2 16)) 17 ((fX5_canAsk I R x1 x2).2 17)) 18 ((fX5_canAsk I R x1 x2).2 18)) 20 ((fX5_canAsk I R x1 x2).2 20), R3) ∧
      (∀ r, r < 6 ∨ 10 < r → R3 r = R2 r) ∧ (∀ m q, m < 5 → (q < 16 * i + a ∨ 16 * i + 16 ≤ q) → R3 (6 + m) q = R2 (6 + m) q) ∧ ∀ m k, m < 5 → a ≤ k → k < 16 → R3 (6 + m) (16 * i + k) = R2 (12 + m) k
  | 0, a, R2, ha => ⟨R2, by rw [fX5_wouldAnswer_L168], fun _ _ => rfl, fun _ _ _ _ => rfl, fun m k hm h1 h2 => absurd h1 (by omega)⟩
  | n + 1, a, R2, ha => by
    have e : fX5_wouldAnswer_L168 I R x1 x2 (n + 1) a ans I2 R2 = fX5_wouldAnswer_L168 I R x1 x2 n (a + 1) ans I2 (zV R2 i a) := by
      rw [fX5_wouldAnswer_L168, hN, r_ix hi (by omega), r_cl (by omega)]
      rfl
    obtain ⟨R3, g1, g2, g3, g4⟩ := w168 hi hN (ans := ans) (I2 := I2) n (a + 1) (zV R2 i a) (by omega)
    refine ⟨R3, e.trans g1, fun r hr => (g2 r hr).trans (zV_o hr), fun m q hm hq => ?_, fun m k hm h1 h2 => ?_⟩
    · rw [g3 m q hm (by omega), zV_i hm, if_neg (by omega)]
    · by_cases q : k = a
      · subst q
        rw [g3 m (16 * i + k) hm (by omega), zV_i hm, if_pos rfl]
      · rw [g4 m k hm (by omega) h2, zV_o (by omega)]
theorem r_copy {s : Nat} {C E R R2 : Nat → Nat → Int32} (h : rC s E R) (e : ∀ r, r < 12 → R2 r = R r) : rC s (fX0_copyFrom C E) R2 := by
  have cp : ∀ (f g : Nat → Int32) (j : Nat), j < 16 → va_cpy f g 0 0 16 j = f j := by
    intro f g j hj
    simp [va_cpy, hj]
  refine ⟨fun r hr j hj => ?_, ?_, ?_⟩
  · rw [e (6 + r) (by omega), ← h.1 r hr j hj]
    rcases (show r = 0 ∨ r = 1 ∨ r = 2 ∨ r = 3 ∨ r = 4 by omega) with rfl | rfl | rfl | rfl | rfl
    · exact cp _ _ j hj
    · exact cp _ _ j hj
    · exact cp _ _ j hj
    · exact cp _ _ j hj
    · exact cp _ _ j hj
  · show E 5 0 = nI (cnn (va_cpy (E 0) (C 0) 0 0 16) 16)
    rw [cnn_congr (fun j hj => cp (E 0) (C 0) j hj)]
    exact h.2.1
  · show cnn (va_cpy (E 0) (C 0) 0 0 16) 16 ≤ 6
    rw [cnn_congr (fun j hj => cp (E 0) (C 0) j hj)]
    exact h.2.2
theorem q_wouldAnswer_m {n : Nat} {X W O I : Nat → Int32} {Z D R : Nat → Nat → Int32} {Cs : Nat → Nat → Nat → Int32} {x1 x2 : Int32} {g : Nat → Int64} (h : rR n X Z W D Cs O I R) (hN : fX4_near n D x1 = none) :
    rE (fL_wouldAnswer_m D x1 x2 g) g (fX5_wouldAnswer I R x1 x2).2.1 (fX5_wouldAnswer I R x1 x2).1 ∧ rR n X Z W D Cs O (fX5_wouldAnswer I R x1 x2).2.1 (fX5_wouldAnswer I R x1 x2).2.2 := by
  unfold fL_wouldAnswer_m fX4_wouldAnswer_m fX5_wouldAnswer
  rcases r_name x2 with ⟨j, hj, rfl, a1, a2⟩ | ⟨a1, a2, a3⟩
  · rcases r_with x1 0 99 with ⟨b1, b2, b3, b4⟩ | ⟨b1, b2, b3, b4⟩
    · obtain ⟨c, hc, rfl⟩ := r_99 b3 b4
      rcases r_near h.1 hc with ⟨_, e2⟩ | ⟨b, hb, e1, _⟩
      · rw [r_saM3 a1 b1, r_cA3 a2 b2 e2, if_pos rfl, if_neg n31, if_neg n32]
        exact ⟨⟨rfl, fun q => absurd q i30⟩, h⟩
      · rw [e1] at hN; exact absurd hN (by intro q; cases q)
    · rw [r_saM2 a1 b1 b3, r_cA2 a2 b2, if_pos rfl, if_neg n21, if_pos rfl]
      exact ⟨⟨rfl, fun q => absurd q i20⟩, h⟩
  · rw [r_saM1 a1 a3, r_cA1 a2, if_pos rfl, if_pos rfl]
    exact ⟨⟨rfl, fun q => absurd q i10⟩, h⟩
theorem q_wouldAnswer_h {n i : Nat} {X W Ft Ot O I : Nat → Int32} {Z D R Tc : Nat → Nat → Int32} {Cs : Nat → Nat → Nat → Int32} {x1 x2 : Int32} {g : Nat → Int64} (h : rR n X Z W D Cs O I R) (hi : i < n) (hN : fX4_near n D x1 = some i) :
    rE (fL_wouldAnswer_h X D i (Cs i) Z W Ft Ot Tc x1 x2 g).1 (fL_wouldAnswer_h X D i (Cs i) Z W Ft Ot Tc x1 x2 g).2.2.2.2 (fX5_wouldAnswer I R x1 x2).2.1 (fX5_wouldAnswer I R x1 x2).1 ∧
    rR n X Z W D Cs O (fX5_wouldAnswer I R x1 x2).2.1 (fX5_wouldAnswer I R x1 x2).2.2 := by
  unfold fL_wouldAnswer_h fX4_wouldAnswer_h fX5_wouldAnswer
  rcases r_name x2 with ⟨j, hj, rfl, a1, a2⟩ | ⟨a1, a2, a3⟩
  · rcases r_with x1 0 99 with ⟨b1, b2, b3, b4⟩ | ⟨b1, b2, b3, b4⟩
    · obtain ⟨c, hc, rfl⟩ := r_99 b3 b4
      have h4 : i < 4 := by have := h.1.2.1; omega
      have nr : ∀ J : Nat → Int32, J 5 = nI n → fX5_nearest J R (nI c) = nI i := by
        intro J hJ
        rcases r_near (I := J) (n := n) (D := D) (R := R) ⟨hJ, h.1.2⟩ hc with ⟨e, _⟩ | ⟨b, hb, e1, e2⟩
        · rw [e] at hN; exact absurd hN (by intro q; cases q)
        · rw [e1] at hN; cases hN; exact e2
      have cA : fX5_canAsk I R (nI c) (nI j) = (1, va_up I 9 0) := r_cA0 a2 b2 h4 (nr I h.1.1)
      have hN' : fX5_nearest ((fX5_canAsk I R (nI c) (nI j)).2) R (nI c) = nI i := by rw [cA]; exact nr _ h.1.1
      obtain ⟨R2, e1, e2, e3⟩ := w44 h4 hN' 16 0 R rfl (fun _ _ => rfl) (fun m k hm hk => absurd hk (by omega))
      rw [r_saH0 a1 b1, if_pos rfl, e3, cA, if_neg i10]
      unfold fX4_wouldAnswer_s2 fX4_wouldAnswer_s3
      obtain ⟨hS, hZ, hX, hK⟩ := h
      have q0 : rQ i 0 (zb X (va_up (va_up I 9 0) 25 0)) X W Ft (fX1_begin Ft Ot) (va_up (va_up I 9 0) 25 0) Z (fX0_copyFrom Tc (Cs i)) R2 := by
        refine r_begin (r_copy (hK.2.1 i hi) e1) (hZ.mono rfl rfl (e1 1 (by decide)) (e1 2 (by decide)) (e1 3 (by decide))) ?_ hX.2.1 hX.2.2.2.2.2.2.2.2.2.2.2 rfl
        unfold zwE zwC zwD
        rw [e1 6 (by decide), e1 7 (by decide)]
        exact hK.1
      obtain ⟨g1, g2, g3, g4⟩ := r_resL (F := Ft) (O := Ot) (I := va_up (va_up I 9 0) 25 0) (C := fX0_copyFrom Tc (Cs i)) (R := R2) (x1 := nI j) (x2 := nI j) h4 5 0 j (fX0_copyFrom Tc (Cs i)) Ft (fX1_begin Ft Ot) (va_up (va_up I 9 0) 25 0) R2 rfl hj q0
      change (fX4_resolve X Z W (fX0_copyFrom Tc (Cs i)) Ft Ot (nI j)).1 = (fX5_resolve (va_up (va_up I 9 0) 25 0) R2 (nI i) (nI j)).1 at g1
      change rQ i 5 _ X W (fX4_resolve X Z W (fX0_copyFrom Tc (Cs i)) Ft Ot (nI j)).2.2.1 (fX4_resolve X Z W (fX0_copyFrom Tc (Cs i)) Ft Ot (nI j)).2.2.2 (fX5_resolve (va_up (va_up I 9 0) 25 0) R2 (nI i) (nI j)).2.1 Z (fX4_resolve X Z W (fX0_copyFrom Tc (Cs i)) Ft Ot (nI j)).2.1 (fX5_resolve (va_up (va_up I 9 0) 25 0) R2 (nI i) (nI j)).2.2 at g2
      change rF i (va_up (va_up I 9 0) 25 0) R2 (fX5_resolve (va_up (va_up I 9 0) 25 0) R2 (nI i) (nI j)).2.1 (fX5_resolve (va_up (va_up I 9 0) 25 0) R2 (nI i) (nI j)).2.2 at g3
      change (fX4_resolve X Z W (fX0_copyFrom Tc (Cs i)) Ft Ot (nI j)).2.2.2 4 = fX1_begin Ft Ot 4 at g4
      rw [g1]
      generalize fX4_resolve X Z W (fX0_copyFrom Tc (Cs i)) Ft Ot (nI j) = o at *
      generalize fX5_resolve (va_up (va_up I 9 0) 25 0) R2 (nI i) (nI j) = o' at *
      obtain ⟨R3, w1, w2, w3, w4⟩ := w168 h4 hN' (ans := o'.1) (I2 := o'.2.1) 16 0 o'.2.2 rfl
      rw [w1, cA, if_pos (show (0 : Nat) = 0 from rfl)]
      have i21 : o'.2.1 21 = I 21 := by
        have := g2.2.2.2.2.1.2.2.2.1
        rw [g4] at this
        rw [this]
        exact Int32.add_zero _
      refine ⟨⟨?_, fun _ => r_g g _⟩, ?_⟩
      · show o'.2.1 9 = 0
        rw [g3.1 9 (by decide)]; rfl
      · have r6 : ∀ r q, 6 ≤ r → r ≤ 10 → q < 64 → R3 r q = R r q := by
          intro r q h6 h10 hq
          obtain ⟨m, rfl⟩ : ∃ m, r = 6 + m := ⟨r - 6, by omega⟩
          by_cases out : q < 16 * i ∨ 16 * i + 16 ≤ q
          · rw [w3 m q (by omega) (by omega), g3.2.2 (6 + m) q h6 h10 out, e1 (6 + m) (by omega)]
          · obtain ⟨k, rfl⟩ : ∃ k, q = 16 * i + k := ⟨q - 16 * i, by omega⟩
            rw [w4 m k (by omega) (by omega) (by omega), g3.2.1 (12 + m) (by omega), e2 m k (by omega) (by omega)]
        have rl : ∀ r, r < 6 → R3 r = R r := fun r hr => (w2 r (by omega)).trans ((g3.2.1 r (by omega)).trans (e1 r (by omega)))
        refine ⟨hS.mono (g3.1 5 (by decide)) (rl 4 (by decide)) (rl 5 (by decide)), hZ.mono (g3.1 3 (by decide)) (g3.1 4 (by decide)) (rl 1 (by decide)) (rl 2 (by decide)) (rl 3 (by decide)), ?_, hK.pt hS.2.1 r6⟩
        obtain ⟨y2, y3, y5, y8, y9, y10, y11, y12, z2, z3, z5, z16⟩ := hX
        exact ⟨y2, y3.trans (g3.1 8 (by decide)).symm, y5.trans (g3.1 15 (by decide)).symm, y8.trans (g3.1 19 (by decide)).symm, y9, y10.trans i21.symm, y11.trans (g3.1 22 (by decide)).symm, y12.trans (g3.1 23 (by decide)).symm, z2, z3, z5, z16⟩
    · rw [r_saH2 a1 b1 b3, r_cA2 a2 b2, if_neg n20, if_pos rfl, if_neg n20, if_neg n21]
      exact ⟨⟨rfl, fun q => absurd q i20⟩, h⟩
  · rw [r_saH1 a1 a3, r_cA1 a2, if_neg n10, if_pos rfl, if_neg n10, if_pos rfl]
    exact ⟨⟨rfl, fun q => absurd q i10⟩, h⟩
