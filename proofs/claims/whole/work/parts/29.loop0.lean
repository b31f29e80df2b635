/-! THE LOOP -/
section ZLP
variable {K : zK} {p : Program} {l : Launch} {e : Env} {R : Room} {s : State} {m : MethodId} {args : Array Value} {below : List Frame} {meth : Method} {c : Code} {A : Nat → Prop} {Q : State → Prop} {k n : Nat} {bs bc br : zB} {lv : List (Nat × Value)} {st : List Value} {pc : Nat}
theorem z_to (isC isR : List Nat) (hs : zSp bs bc br isC isR) (kk : zW K p l e R s m args below meth c A Q k n (bc ++ [br.flatten]) lv st pc) : zW K p l e R s m args below meth c A Q k n bs lv st pc := by
  refine z_perm (hs.pm.trans (List.Perm.of_eq ?_)) kk
  rw [List.flatten_append, List.flatten_append, List.flatten_cons, List.flatten_nil, List.append_nil]
theorem z_fro (isC isR : List Nat) (hs : zSp bs bc br isC isR) (kk : zW K p l e R s m args below meth c A Q k n bs lv st pc) : zW K p l e R s m args below meth c A Q k n (bc ++ [br.flatten]) lv st pc := by
  refine z_perm (List.Perm.trans (List.Perm.of_eq ?_) hs.pm.symm) kk
  rw [List.flatten_append, List.flatten_append, List.flatten_cons, List.flatten_nil, List.append_nil]
end ZLP
theorem r_31 (x : Int32) : ∃ o, o < 32 ∧ x &&& 31 = nI o := by
  refine ⟨(x &&& 31).toBitVec.toNat, ?_, ?_⟩
  · show (x.toBitVec &&& (31 : Int32).toBitVec).toNat < 32
    rw [BitVec.toNat_and]
    exact Nat.lt_of_le_of_lt Nat.and_le_right (by decide)
  · apply Int32.toBitVec_inj.mp
    show _ = BitVec.ofNat 32 _
    rw [BitVec.ofNat_toNat, BitVec.setWidth_eq]
theorem r_end {L ii : Nat} (hL : L ≤ 2048) (hi : ii ≤ 4096) : nI L - 4 < nI ii ↔ L < ii + 4 := by
  by_cases h : 4 ≤ L
  · obtain ⟨m, rfl⟩ : ∃ m, L = m + 4 := ⟨L - 4, by omega⟩
    have e : nI (m + 4) - 4 = nI m := by
      rw [← nI_add, show nI 4 = 4 from by decide, Int32.add_sub_cancel]
    rw [e, nI_ltI (by omega) (by omega)]
    omega
  · have e : (nI L - 4).toInt < 0 := by
      rcases (show L = 0 ∨ L = 1 ∨ L = 2 ∨ L = 3 by omega) with rfl | rfl | rfl | rfl <;> decide
    rw [Int32.lt_iff_toInt_lt, nI_toInt (by omega)]
    omega
theorem r_hi {L ii k : Nat} (hL : L ≤ 2048) (h : ii + 4 ≤ L) (hk : k < 4) : vp_in (nI ii + nI k) L := by
  rw [nI_add]
  exact z_nIr (by omega) (by omega)
/-- all blocks of the law -/
def zFu (K : zK) (ax sa ao : Nat) (az ak tk tc am : Nat → Nat) (n : Nat) (f : Nat → Option Nat) (so : Nat → Nat) (sc : Nat → Nat → Nat) (X : Nat → Int32) (Z : Nat → Nat → Int32) (W : Nat → Int32) (D : Nat → Nat → Int32) (Cs : Nat → Nat → Nat → Int32) (F O Ft Ot : Nat → Int32) (Tc : Nat → Nat → Int32) (I : Nat → Int32) (R : Nat → Nat → Int32) (g : Nat → Int64) : zB :=
  [zXo ax (az 0) sa (ak 0) (tk 0) (tc 0) X, zZo K az Z W, zSa K sa f, zSO n so sc D, zSC K n sc Cs, zCo K ak F O, zCo K tk Ft Ot, zCa K tc Tc, zMo K am I R, zOu K ao g]
/-- the same, one site's cache by itself -/
def zFi (K : zK) (ax sa ao : Nat) (az ak tk tc am : Nat → Nat) (n : Nat) (f : Nat → Option Nat) (so : Nat → Nat) (sc : Nat → Nat → Nat) (X : Nat → Int32) (Z : Nat → Nat → Int32) (W : Nat → Int32) (D : Nat → Nat → Int32) (Cs : Nat → Nat → Nat → Int32) (i : Nat) (C : Nat → Nat → Int32) (F O Ft Ot : Nat → Int32) (Tc : Nat → Nat → Int32) (I : Nat → Int32) (R : Nat → Nat → Int32) (g : Nat → Int64) : zB :=
  [zXo ax (az 0) sa (ak 0) (tk 0) (tc 0) X, zZo K az Z W, zSa K sa f, zSO n so sc D, zCa K (sc i) C, zCo K ak F O, zCo K tk Ft Ot, zCa K tc Tc, zMo K am I R, zOu K ao g, zSX K n sc Cs i]
theorem zFi_p {α : Type} (a0 a1 a2 a3 a5 a6 a7 a8 a9 c x S : List α) (h : S.Perm (c ++ x)) : ([a0, a1, a2, a3, S, a5, a6, a7, a8, a9] : List (List α)).flatten.Perm ([a0, a1, a2, a3, c, a5, a6, a7, a8, a9, x] : List (List α)).flatten := by
  simp only [List.flatten_cons, List.flatten_nil, List.append_nil]
  refine List.Perm.append_left _ (List.Perm.append_left _ (List.Perm.append_left _ (List.Perm.append_left _ ?_)))
  refine (h.append_right _).trans ?_
  rw [List.append_assoc]
  refine List.Perm.append_left _ ?_
  refine List.perm_append_comm.trans ?_
  simp only [List.append_assoc]
  exact List.Perm.refl _
theorem zFi_of {K : zK} {ax sa ao : Nat} {az ak tk tc am : Nat → Nat} {n i : Nat} {f : Nat → Option Nat} {so : Nat → Nat} {sc : Nat → Nat → Nat} {X : Nat → Int32} {Z : Nat → Nat → Int32} {W : Nat → Int32} {D : Nat → Nat → Int32} {Cs : Nat → Nat → Nat → Int32} {F O Ft Ot : Nat → Int32} {Tc : Nat → Nat → Int32} {I : Nat → Int32} {R : Nat → Nat → Int32} {g : Nat → Int64} (hi : i < n) :
    (zFu K ax sa ao az ak tk tc am n f so sc X Z W D Cs F O Ft Ot Tc I R g).flatten.Perm (zFi K ax sa ao az ak tk tc am n f so sc X Z W D Cs i (Cs i) F O Ft Ot Tc I R g).flatten := zFi_p _ _ _ _ _ _ _ _ _ _ _ _ (zSC_split hi)
theorem zFi_to {K : zK} {ax sa ao : Nat} {az ak tk tc am : Nat → Nat} {n i : Nat} {f : Nat → Option Nat} {so : Nat → Nat} {sc : Nat → Nat → Nat} {X : Nat → Int32} {Z : Nat → Nat → Int32} {W : Nat → Int32} {D : Nat → Nat → Int32} {Cs : Nat → Nat → Nat → Int32} {C : Nat → Nat → Int32} {F O Ft Ot : Nat → Int32} {Tc : Nat → Nat → Int32} {I : Nat → Int32} {R : Nat → Nat → Int32} {g : Nat → Int64} (hi : i < n) :
    (zFi K ax sa ao az ak tk tc am n f so sc X Z W D Cs i C F O Ft Ot Tc I R g).flatten.Perm (zFu K ax sa ao az ak tk tc am n f so sc X Z W D (va_up Cs i C) F O Ft Ot Tc I R g).flatten := (zFi_p _ _ _ _ _ _ _ _ _ _ _ _ (zSC_join hi)).symm
theorem z_nrLt {n : Nat} {D : Nat → Nat → Int32} {x1 : Int32} : ∀ (m a : Nat) (g : Option Nat), (g = none ∨ ∃ b, b < n ∧ g = some b) → (fX4_nr n D x1 m a g = none ∨ ∃ b, b < n ∧ fX4_nr n D x1 m a g = some b)
  | 0, a, g, h => h
  | m + 1, a, g, h => by
    by_cases q : a < n
    · by_cases z : D a 3 = 0
      · rw [r_nrD q z]
        exact z_nrLt m (a + 1) g h
      · rcases h with rfl | ⟨b, hb, rfl⟩
        · rw [r_nrN q z]
          exact z_nrLt m (a + 1) _ (Or.inr ⟨a, q, rfl⟩)
        · rw [r_nrS q z]
          split
          · exact z_nrLt m (a + 1) _ (Or.inr ⟨b, hb, rfl⟩)
          · exact z_nrLt m (a + 1) _ (Or.inr ⟨a, q, rfl⟩)
    · rw [show fX4_nr n D x1 (m + 1) a g = fX4_nr n D x1 m (a + 1) g from if_neg q]
      exact z_nrLt m (a + 1) g h
theorem z_nearLt (n : Nat) (D : Nat → Nat → Int32) (x1 : Int32) : fX4_near n D x1 = none ∨ ∃ i, i < n ∧ fX4_near n D x1 = some i := z_nrLt 4 0 none (Or.inl rfl)

