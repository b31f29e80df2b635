/-! one place of the reference that is new: the block with it, decided once for variables -/
theorem zMoR1 {K : zK} {a : Nat → Nat} {I : Nat → Int32} {R : Nat → Nat → Int32} {f : Nat → Int32} : ([zMo K a I R] : zB).set 0 ((zMo K a I R).set 1 (a 1, .inl (zI K, 16, .inl f))) = [zMo K a I (va_up R 1 f)] := rfl
theorem zMoR2 {K : zK} {a : Nat → Nat} {I : Nat → Int32} {R : Nat → Nat → Int32} {f : Nat → Int32} : ([zMo K a I R] : zB).set 0 ((zMo K a I R).set 2 (a 2, .inl (zI K, 16, .inl f))) = [zMo K a I (va_up R 2 f)] := rfl
theorem zMoR3 {K : zK} {a : Nat → Nat} {I : Nat → Int32} {R : Nat → Nat → Int32} {f : Nat → Int32} : ([zMo K a I R] : zB).set 0 ((zMo K a I R).set 3 (a 3, .inl (zI K, 16, .inl f))) = [zMo K a I (va_up R 3 f)] := rfl
theorem zMoR4 {K : zK} {a : Nat → Nat} {I : Nat → Int32} {R : Nat → Nat → Int32} {f : Nat → Int32} : ([zMo K a I R] : zB).set 0 ((zMo K a I R).set 4 (a 4, .inl (zI K, 4, .inl f))) = [zMo K a I (va_up R 4 f)] := rfl
theorem zMoR5 {K : zK} {a : Nat → Nat} {I : Nat → Int32} {R : Nat → Nat → Int32} {f : Nat → Int32} : ([zMo K a I R] : zB).set 0 ((zMo K a I R).set 5 (a 5, .inl (zZ K, 4, .inl f))) = [zMo K a I (va_up R 5 f)] := rfl
theorem zMoR6 {K : zK} {a : Nat → Nat} {I : Nat → Int32} {R : Nat → Nat → Int32} {f : Nat → Int32} : ([zMo K a I R] : zB).set 0 ((zMo K a I R).set 6 (a 6, .inl (zI K, 64, .inl f))) = [zMo K a I (va_up R 6 f)] := rfl
theorem zMoR7 {K : zK} {a : Nat → Nat} {I : Nat → Int32} {R : Nat → Nat → Int32} {f : Nat → Int32} : ([zMo K a I R] : zB).set 0 ((zMo K a I R).set 7 (a 7, .inl (zI K, 64, .inl f))) = [zMo K a I (va_up R 7 f)] := rfl
theorem zMoR8 {K : zK} {a : Nat → Nat} {I : Nat → Int32} {R : Nat → Nat → Int32} {f : Nat → Int32} : ([zMo K a I R] : zB).set 0 ((zMo K a I R).set 8 (a 8, .inl (zI K, 64, .inl f))) = [zMo K a I (va_up R 8 f)] := rfl
theorem zMoR9 {K : zK} {a : Nat → Nat} {I : Nat → Int32} {R : Nat → Nat → Int32} {f : Nat → Int32} : ([zMo K a I R] : zB).set 0 ((zMo K a I R).set 9 (a 9, .inl (zI K, 64, .inl f))) = [zMo K a I (va_up R 9 f)] := rfl
theorem zMoR10 {K : zK} {a : Nat → Nat} {I : Nat → Int32} {R : Nat → Nat → Int32} {f : Nat → Int32} : ([zMo K a I R] : zB).set 0 ((zMo K a I R).set 10 (a 10, .inl (zI K, 64, .inl f))) = [zMo K a I (va_up R 10 f)] := rfl
theorem zMoR11 {K : zK} {a : Nat → Nat} {I : Nat → Int32} {R : Nat → Nat → Int32} {f : Nat → Int32} : ([zMo K a I R] : zB).set 0 ((zMo K a I R).set 11 (a 11, .inl (zI K, 8, .inl f))) = [zMo K a I (va_up R 11 f)] := rfl
theorem zMoR12 {K : zK} {a : Nat → Nat} {I : Nat → Int32} {R : Nat → Nat → Int32} {f : Nat → Int32} : ([zMo K a I R] : zB).set 0 ((zMo K a I R).set 12 (a 12, .inl (zI K, 16, .inl f))) = [zMo K a I (va_up R 12 f)] := rfl
theorem zMoR13 {K : zK} {a : Nat → Nat} {I : Nat → Int32} {R : Nat → Nat → Int32} {f : Nat → Int32} : ([zMo K a I R] : zB).set 0 ((zMo K a I R).set 13 (a 13, .inl (zI K, 16, .inl f))) = [zMo K a I (va_up R 13 f)] := rfl
theorem zMoR14 {K : zK} {a : Nat → Nat} {I : Nat → Int32} {R : Nat → Nat → Int32} {f : Nat → Int32} : ([zMo K a I R] : zB).set 0 ((zMo K a I R).set 14 (a 14, .inl (zI K, 16, .inl f))) = [zMo K a I (va_up R 14 f)] := rfl
theorem zMoR15 {K : zK} {a : Nat → Nat} {I : Nat → Int32} {R : Nat → Nat → Int32} {f : Nat → Int32} : ([zMo K a I R] : zB).set 0 ((zMo K a I R).set 15 (a 15, .inl (zI K, 16, .inl f))) = [zMo K a I (va_up R 15 f)] := rfl
theorem zMoR16 {K : zK} {a : Nat → Nat} {I : Nat → Int32} {R : Nat → Nat → Int32} {f : Nat → Int32} : ([zMo K a I R] : zB).set 0 ((zMo K a I R).set 16 (a 16, .inl (zI K, 16, .inl f))) = [zMo K a I (va_up R 16 f)] := rfl
theorem zMoI3 {K : zK} {a : Nat → Nat} {I : Nat → Int32} {R : Nat → Nat → Int32} {v : Int32} : ([zMo K a I R] : zB).set 0 ((zMo K a I R).set 0 (a 0, .inr (5, ([.ref (a 1), .ref (a 2), .ref (a 3), .int (I 3), .int (I 4), .int (I 5), .ref (a 4), .ref (a 5), .int (I 8), .int (I 9), .ref (a 6), .ref (a 7), .ref (a 8), .ref (a 9), .ref (a 10), .int (I 15), .int (I 16), .int (I 17), .int (I 18), .int (I 19), .int (I 20), .int (I 21), .int (I 22), .int (I 23), .ref (a 11), .int (I 25), .ref (a 12), .ref (a 13), .ref (a 14), .ref (a 15), .ref (a 16)] : List Value).set 3 (.int v)))) = [zMo K a (va_up I 3 v) R] := rfl
theorem zMoI4 {K : zK} {a : Nat → Nat} {I : Nat → Int32} {R : Nat → Nat → Int32} {v : Int32} : ([zMo K a I R] : zB).set 0 ((zMo K a I R).set 0 (a 0, .inr (5, ([.ref (a 1), .ref (a 2), .ref (a 3), .int (I 3), .int (I 4), .int (I 5), .ref (a 4), .ref (a 5), .int (I 8), .int (I 9), .ref (a 6), .ref (a 7), .ref (a 8), .ref (a 9), .ref (a 10), .int (I 15), .int (I 16), .int (I 17), .int (I 18), .int (I 19), .int (I 20), .int (I 21), .int (I 22), .int (I 23), .ref (a 11), .int (I 25), .ref (a 12), .ref (a 13), .ref (a 14), .ref (a 15), .ref (a 16)] : List Value).set 4 (.int v)))) = [zMo K a (va_up I 4 v) R] := rfl
theorem zMoI5 {K : zK} {a : Nat → Nat} {I : Nat → Int32} {R : Nat → Nat → Int32} {v : Int32} : ([zMo K a I R] : zB).set 0 ((zMo K a I R).set 0 (a 0, .inr (5, ([.ref (a 1), .ref (a 2), .ref (a 3), .int (I 3), .int (I 4), .int (I 5), .ref (a 4), .ref (a 5), .int (I 8), .int (I 9), .ref (a 6), .ref (a 7), .ref (a 8), .ref (a 9), .ref (a 10), .int (I 15), .int (I 16), .int (I 17), .int (I 18), .int (I 19), .int (I 20), .int (I 21), .int (I 22), .int (I 23), .ref (a 11), .int (I 25), .ref (a 12), .ref (a 13), .ref (a 14), .ref (a 15), .ref (a 16)] : List Value).set 5 (.int v)))) = [zMo K a (va_up I 5 v) R] := rfl
theorem zMoI8 {K : zK} {a : Nat → Nat} {I : Nat → Int32} {R : Nat → Nat → Int32} {v : Int32} : ([zMo K a I R] : zB).set 0 ((zMo K a I R).set 0 (a 0, .inr (5, ([.ref (a 1), .ref (a 2), .ref (a 3), .int (I 3), .int (I 4), .int (I 5), .ref (a 4), .ref (a 5), .int (I 8), .int (I 9), .ref (a 6), .ref (a 7), .ref (a 8), .ref (a 9), .ref (a 10), .int (I 15), .int (I 16), .int (I 17), .int (I 18), .int (I 19), .int (I 20), .int (I 21), .int (I 22), .int (I 23), .ref (a 11), .int (I 25), .ref (a 12), .ref (a 13), .ref (a 14), .ref (a 15), .ref (a 16)] : List Value).set 8 (.int v)))) = [zMo K a (va_up I 8 v) R] := rfl
theorem zMoI9 {K : zK} {a : Nat → Nat} {I : Nat → Int32} {R : Nat → Nat → Int32} {v : Int32} : ([zMo K a I R] : zB).set 0 ((zMo K a I R).set 0 (a 0, .inr (5, ([.ref (a 1), .ref (a 2), .ref (a 3), .int (I 3), .int (I 4), .int (I 5), .ref (a 4), .ref (a 5), .int (I 8), .int (I 9), .ref (a 6), .ref (a 7), .ref (a 8), .ref (a 9), .ref (a 10), .int (I 15), .int (I 16), .int (I 17), .int (I 18), .int (I 19), .int (I 20), .int (I 21), .int (I 22), .int (I 23), .ref (a 11), .int (I 25), .ref (a 12), .ref (a 13), .ref (a 14), .ref (a 15), .ref (a 16)] : List Value).set 9 (.int v)))) = [zMo K a (va_up I 9 v) R] := rfl
theorem zMoI15 {K : zK} {a : Nat → Nat} {I : Nat → Int32} {R : Nat → Nat → Int32} {v : Int32} : ([zMo K a I R] : zB).set 0 ((zMo K a I R).set 0 (a 0, .inr (5, ([.ref (a 1), .ref (a 2), .ref (a 3), .int (I 3), .int (I 4), .int (I 5), .ref (a 4), .ref (a 5), .int (I 8), .int (I 9), .ref (a 6), .ref (a 7), .ref (a 8), .ref (a 9), .ref (a 10), .int (I 15), .int (I 16), .int (I 17), .int (I 18), .int (I 19), .int (I 20), .int (I 21), .int (I 22), .int (I 23), .ref (a 11), .int (I 25), .ref (a 12), .ref (a 13), .ref (a 14), .ref (a 15), .ref (a 16)] : List Value).set 15 (.int v)))) = [zMo K a (va_up I 15 v) R] := rfl
theorem zMoI16 {K : zK} {a : Nat → Nat} {I : Nat → Int32} {R : Nat → Nat → Int32} {v : Int32} : ([zMo K a I R] : zB).set 0 ((zMo K a I R).set 0 (a 0, .inr (5, ([.ref (a 1), .ref (a 2), .ref (a 3), .int (I 3), .int (I 4), .int (I 5), .ref (a 4), .ref (a 5), .int (I 8), .int (I 9), .ref (a 6), .ref (a 7), .ref (a 8), .ref (a 9), .ref (a 10), .int (I 15), .int (I 16), .int (I 17), .int (I 18), .int (I 19), .int (I 20), .int (I 21), .int (I 22), .int (I 23), .ref (a 11), .int (I 25), .ref (a 12), .ref (a 13), .ref (a 14), .ref (a 15), .ref (a 16)] : List Value).set 16 (.int v)))) = [zMo K a (va_up I 16 v) R] := rfl
theorem zMoI17 {K : zK} {a : Nat → Nat} {I : Nat → Int32} {R : Nat → Nat → Int32} {v : Int32} : ([zMo K a I R] : zB).set 0 ((zMo K a I R).set 0 (a 0, .inr (5, ([.ref (a 1), .ref (a 2), .ref (a 3), .int (I 3), .int (I 4), .int (I 5), .ref (a 4), .ref (a 5), .int (I 8), .int (I 9), .ref (a 6), .ref (a 7), .ref (a 8), .ref (a 9), .ref (a 10), .int (I 15), .int (I 16), .int (I 17), .int (I 18), .int (I 19), .int (I 20), .int (I 21), .int (I 22), .int (I 23), .ref (a 11), .int (I 25), .ref (a 12), .ref (a 13), .ref (a 14), .ref (a 15), .ref (a 16)] : List Value).set 17 (.int v)))) = [zMo K a (va_up I 17 v) R] := rfl
theorem zMoI18 {K : zK} {a : Nat → Nat} {I : Nat → Int32} {R : Nat → Nat → Int32} {v : Int32} : ([zMo K a I R] : zB).set 0 ((zMo K a I R).set 0 (a 0, .inr (5, ([.ref (a 1), .ref (a 2), .ref (a 3), .int (I 3), .int (I 4), .int (I 5), .ref (a 4), .ref (a 5), .int (I 8), .int (I 9), .ref (a 6), .ref (a 7), .ref (a 8), .ref (a 9), .ref (a 10), .int (I 15), .int (I 16), .int (I 17), .int (I 18), .int (I 19), .int (I 20), .int (I 21), .int (I 22), .int (I 23), .ref (a 11), .int (I 25), .ref (a 12), .ref (a 13), .ref (a 14), .ref (a 15), .ref (a 16)] : List Value).set 18 (.int v)))) = [zMo K a (va_up I 18 v) R] := rfl
theorem zMoI19 {K : zK} {a : Nat → Nat} {I : Nat → Int32} {R : Nat → Nat → Int32} {v : Int32} : ([zMo K a I R] : zB).set 0 ((zMo K a I R).set 0 (a 0, .inr (5, ([.ref (a 1), .ref (a 2), .ref (a 3), .int (I 3), .int (I 4), .int (I 5), .ref (a 4), .ref (a 5), .int (I 8), .int (I 9), .ref (a 6), .ref (a 7), .ref (a 8), .ref (a 9), .ref (a 10), .int (I 15), .int (I 16), .int (I 17), .int (I 18), .int (I 19), .int (I 20), .int (I 21), .int (I 22), .int (I 23), .ref (a 11), .int (I 25), .ref (a 12), .ref (a 13), .ref (a 14), .ref (a 15), .ref (a 16)] : List Value).set 19 (.int v)))) = [zMo K a (va_up I 19 v) R] := rfl
theorem zMoI20 {K : zK} {a : Nat → Nat} {I : Nat → Int32} {R : Nat → Nat → Int32} {v : Int32} : ([zMo K a I R] : zB).set 0 ((zMo K a I R).set 0 (a 0, .inr (5, ([.ref (a 1), .ref (a 2), .ref (a 3), .int (I 3), .int (I 4), .int (I 5), .ref (a 4), .ref (a 5), .int (I 8), .int (I 9), .ref (a 6), .ref (a 7), .ref (a 8), .ref (a 9), .ref (a 10), .int (I 15), .int (I 16), .int (I 17), .int (I 18), .int (I 19), .int (I 20), .int (I 21), .int (I 22), .int (I 23), .ref (a 11), .int (I 25), .ref (a 12), .ref (a 13), .ref (a 14), .ref (a 15), .ref (a 16)] : List Value).set 20 (.int v)))) = [zMo K a (va_up I 20 v) R] := rfl
theorem zMoI21 {K : zK} {a : Nat → Nat} {I : Nat → Int32} {R : Nat → Nat → Int32} {v : Int32} : ([zMo K a I R] : zB).set 0 ((zMo K a I R).set 0 (a 0, .inr (5, ([.ref (a 1), .ref (a 2), .ref (a 3), .int (I 3), .int (I 4), .int (I 5), .ref (a 4), .ref (a 5), .int (I 8), .int (I 9), .ref (a 6), .ref (a 7), .ref (a 8), .ref (a 9), .ref (a 10), .int (I 15), .int (I 16), .int (I 17), .int (I 18), .int (I 19), .int (I 20), .int (I 21), .int (I 22), .int (I 23), .ref (a 11), .int (I 25), .ref (a 12), .ref (a 13), .ref (a 14), .ref (a 15), .ref (a 16)] : List Value).set 21 (.int v)))) = [zMo K a (va_up I 21 v) R] := rfl
theorem zMoI22 {K : zK} {a : Nat → Nat} {I : Nat → Int32} {R : Nat → Nat → Int32} {v : Int32} : ([zMo K a I R] : zB).set 0 ((zMo K a I R).set 0 (a 0, .inr (5, ([.ref (a 1), .ref (a 2), .ref (a 3), .int (I 3), .int (I 4), .int (I 5), .ref (a 4), .ref (a 5), .int (I 8), .int (I 9), .ref (a 6), .ref (a 7), .ref (a 8), .ref (a 9), .ref (a 10), .int (I 15), .int (I 16), .int (I 17), .int (I 18), .int (I 19), .int (I 20), .int (I 21), .int (I 22), .int (I 23), .ref (a 11), .int (I 25), .ref (a 12), .ref (a 13), .ref (a 14), .ref (a 15), .ref (a 16)] : List Value).set 22 (.int v)))) = [zMo K a (va_up I 22 v) R] := rfl
theorem zMoI23 {K : zK} {a : Nat → Nat} {I : Nat → Int32} {R : Nat → Nat → Int32} {v : Int32} : ([zMo K a I R] : zB).set 0 ((zMo K a I R).set 0 (a 0, .inr (5, ([.ref (a 1), .ref (a 2), .ref (a 3), .int (I 3), .int (I 4), .int (I 5), .ref (a 4), .ref (a 5), .int (I 8), .int (I 9), .ref (a 6), .ref (a 7), .ref (a 8), .ref (a 9), .ref (a 10), .int (I 15), .int (I 16), .int (I 17), .int (I 18), .int (I 19), .int (I 20), .int (I 21), .int (I 22), .int (I 23), .ref (a 11), .int (I 25), .ref (a 12), .ref (a 13), .ref (a 14), .ref (a 15), .ref (a 16)] : List Value).set 23 (.int v)))) = [zMo K a (va_up I 23 v) R] := rfl
theorem zMoI25 {K : zK} {a : Nat → Nat} {I : Nat → Int32} {R : Nat → Nat → Int32} {v : Int32} : ([zMo K a I R] : zB).set 0 ((zMo K a I R).set 0 (a 0, .inr (5, ([.ref (a 1), .ref (a 2), .ref (a 3), .int (I 3), .int (I 4), .int (I 5), .ref (a 4), .ref (a 5), .int (I 8), .int (I 9), .ref (a 6), .ref (a 7), .ref (a 8), .ref (a 9), .ref (a 10), .int (I 15), .int (I 16), .int (I 17), .int (I 18), .int (I 19), .int (I 20), .int (I 21), .int (I 22), .int (I 23), .ref (a 11), .int (I 25), .ref (a 12), .ref (a 13), .ref (a 14), .ref (a 15), .ref (a 16)] : List Value).set 25 (.int v)))) = [zMo K a (va_up I 25 v) R] := rfl

/-- what a fetch writes at the place i of the rows 6 to 10 -/
def zFe (T : Nat → Nat → Int32) (i : Nat) (k v lf en : Int32) : Nat → Nat → Int32 := va_up (va_up (va_up (va_up (va_up T 6 (upd (T 6) i k)) 7 (upd (T 7) i v)) 8 (upd (T 8) i lf)) 9 (upd (T 9) i en)) 10 (upd (T 10) i 0)
theorem z_mrL {I : Nat → Int32} {R : Nat → Nat → Int32} {x : Int32} : ∀ (n a : Nat) (g : Int32), ∃ g' : Nat, fX5_makeRoom_L8 I R x n a g = va_up R 6 (upd (R 6) g' 3)
  | 0, a, g => ⟨_, rfl⟩
  | n + 1, a, g => by
    rw [fX5_makeRoom_L8]
    split
    · exact z_mrL n (a + 1) _
    · split
      · exact z_mrL n (a + 1) _
      · split
        · exact z_mrL n (a + 1) _
        · exact z_mrL n (a + 1) _
theorem z_mr1 {I : Nat → Int32} {R : Nat → Nat → Int32} {x : Int32} : ∃ g' : Nat, fX5_makeRoom I R x = va_up R 6 (upd (R 6) g' 3) := z_mrL 16 0 (-3)
/-- the rows with room made -/
def zT6 (I : Nat → Int32) (R : Nat → Nat → Int32) (x y : Int32) : Nat → Nat → Int32 := if (R 6) (16 * x + y).toNatClampNeg = 3 then if fX5_size I R x = 6 then fX5_makeRoom I R x else R else R
theorem z_T6 {I : Nat → Int32} {R : Nat → Nat → Int32} {x y : Int32} : (∀ k, k ≠ 6 → zT6 I R x y k = R k) ∧ ∀ i, zT6 I R x y 6 i = R 6 i ∨ zT6 I R x y 6 i = 3 := by
  obtain ⟨g, hg⟩ := z_mr1 (I := I) (R := R) (x := x)
  unfold zT6
  split
  · split
    · rw [hg]
      refine ⟨fun k hk => by simp [va_up, hk], fun i => ?_⟩
      by_cases e : i = g
      · exact Or.inr (by simp [va_up, upd, e])
      · exact Or.inl (by simp [va_up, upd, e])
    · exact ⟨fun _ _ => rfl, fun _ => Or.inl rfl⟩
  · exact ⟨fun _ _ => rfl, fun _ => Or.inl rfl⟩
theorem z_mf (I : Nat → Int32) (R : Nat → Nat → Int32) (x y : Int32) : fX5_fetch I R x y = (va_up (va_up I 18 ((I 18) + 1)) 20 ((I 20) + 1), zFe (zT6 I R x y) (16 * x + y).toNatClampNeg ((R 1) y.toNatClampNeg) (if (R 1) y.toNatClampNeg = 2 then (-3) else (R 2) y.toNatClampNeg) (if (R 1) y.toNatClampNeg = 2 then I 3 else (R 3) y.toNatClampNeg) (I 8 + if (R 1) y.toNatClampNeg = 2 then I 3 else (R 3) y.toNatClampNeg)) := by
  obtain ⟨g, hg⟩ := z_mr1 (I := I) (R := R) (x := x)
  have us : ∀ (f : Nat → Int32) (i : Nat) (v : Int32), upd f i v i = v := fun f i v => by simp [upd]
  unfold fX5_fetch zT6
  by_cases c1 : (R 6) (16 * x + y).toNatClampNeg = 3
  · rw [if_pos c1, if_pos c1]
    by_cases c2 : fX5_size I R x = 6
    · rw [if_pos c2, if_pos c2, hg]
      unfold fX5_fetch_s3
      rw [us, us]
      by_cases c3 : (R 1) y.toNatClampNeg = 2
      · rw [if_pos c3, if_pos c3]
        exact if_pos c3
      · rw [if_neg c3, if_neg c3]
        exact if_neg c3
    · rw [if_neg c2, if_neg c2, us, us]
      by_cases c3 : (R 1) y.toNatClampNeg = 2
      · rw [if_pos c3, if_pos c3, if_pos c3]; rfl
      · rw [if_neg c3, if_neg c3, if_neg c3]; rfl
  · rw [if_neg c1, if_neg c1, us, us]
    by_cases c3 : (R 1) y.toNatClampNeg = 2
    · rw [if_pos c3, if_pos c3, if_pos c3]; rfl
    · rw [if_neg c3, if_neg c3, if_neg c3]; rfl
theorem z_fI {I : Nat → Int32} {R : Nat → Nat → Int32} {x y : Int32} {k : Nat} (h : k ≠ 18 ∧ k ≠ 20) : (fX5_fetch I R x y).1 k = I k := by
  rw [z_mf]
  simp [va_up, h.1, h.2]
theorem z_fR {I : Nat → Int32} {R : Nat → Nat → Int32} {x y : Int32} {k : Nat} (h : k < 6 ∨ 10 < k) : (fX5_fetch I R x y).2 k = R k := by
  rw [z_mf]
  have h1 : k ≠ 6 ∧ k ≠ 7 ∧ k ≠ 8 ∧ k ≠ 9 ∧ k ≠ 10 := by omega
  have h2 : zFe (zT6 I R x y) (16 * x + y).toNatClampNeg ((R 1) y.toNatClampNeg) (if (R 1) y.toNatClampNeg = 2 then (-3) else (R 2) y.toNatClampNeg) (if (R 1) y.toNatClampNeg = 2 then I 3 else (R 3) y.toNatClampNeg) (I 8 + if (R 1) y.toNatClampNeg = 2 then I 3 else (R 3) y.toNatClampNeg) k = zT6 I R x y k := by
    simp [zFe, va_up, h1]
  exact h2.trans (z_T6.1 k h1.1)
theorem z_fC {I : Nat → Int32} {R : Nat → Nat → Int32} {x y : Int32} (hn : vp_in y 16) (hZ : zwZ R) (hC : zwC R) : zwC (fX5_fetch I R x y).2 := by
  rw [z_mf]
  intro i hi h1
  have h1' : upd (zT6 I R x y 6) (16 * x + y).toNatClampNeg ((R 1) y.toNatClampNeg) i = 1 := h1
  show vp_in (upd (zT6 I R x y 7) (16 * x + y).toNatClampNeg (if (R 1) y.toNatClampNeg = 2 then (-3) else (R 2) y.toNatClampNeg) i) 16
  by_cases e : i = (16 * x + y).toNatClampNeg
  · subst e
    simp only [upd, if_true] at h1' ⊢
    rw [if_neg (by rw [h1']; decide)]
    exact (hZ _ (z_nat hn)).2 h1'
  · simp only [upd, if_neg e] at h1' ⊢
    rw [z_T6.1 7 (by decide)]
    rcases z_T6.2 i with q | q
    · exact hC i hi (q.symm.trans h1')
    · rw [q] at h1'; exact absurd h1' (by decide)
theorem z_Zs {R R' : Nat → Nat → Int32} (h1 : R' 1 = R 1) (h2 : R' 2 = R 2) (h : zwZ R) : zwZ R' := by
  unfold zwZ
  rw [h1, h2]
  exact h
theorem z_j8 {x : Int32} {a : Nat} (h : ∃ j, j ≤ a ∧ x = nI j) (ha : a < 8) : vp_in x 8 := by
  obtain ⟨j, hj, rfl⟩ := h
  exact vp_in_nI (by omega) (by decide)

def fX5_looksUp_s4 (I : Nat → Int32) (R : Nat → Nat → Int32) (x1 : Int32) (x2 : Int32) (o4 : (Nat → Int32) × (Nat → Nat → Int32)) : Int32 × (Nat → Int32) × (Nat → Nat → Int32) :=
  (1, (o4.1), (o4.2))
def fX5_looksUp_s10 (I : Nat → Int32) (R : Nat → Nat → Int32) (x1 : Int32) (x2 : Int32) (o10 : (Nat → Int32) × (Nat → Nat → Int32)) : Int32 × (Nat → Int32) × (Nat → Nat → Int32) :=
  (1, (o10.1), (o10.2))
def fX5_looksUp (I : Nat → Int32) (R : Nat → Nat → Int32) (x1 : Int32) (x2 : Int32) : Int32 × (Nat → Int32) × (Nat → Nat → Int32) :=
  if ((R 6) ((16 * x1) + x2).toNatClampNeg) = 3 then
    if (I 4) = 0 then
      if (I 16) = 0 then
        (0, (va_up (va_up I 16 0) 17 ((I 17) + 1)), R)
      else
        (0, (va_up (va_up I 16 1) 17 ((I 17) + 1)), R)
    else
      fX5_looksUp_s4 I R x1 x2 (fX5_fetch (va_up I 17 ((I 17) + 1)) R x1 x2)
  else
    if ((R 9) ((16 * x1) + x2).toNatClampNeg) ≤ (I 8) then
      if (I 4) = 0 then
        if 100 ≤ ((I 8) - ((R 9) ((16 * x1) + x2).toNatClampNeg)) then
          if (I 16) = 0 then
            (0, (va_up (va_up I 16 0) 17 ((I 17) + 1)), R)
          else
            (0, (va_up (va_up I 16 1) 17 ((I 17) + 1)), R)
        else
          if (I 16) = 0 then
            (1, (va_up (va_up I 16 1) 17 ((I 17) + 1)), R)
          else
            (1, (va_up (va_up I 16 1) 17 ((I 17) + 1)), R)
      else
        fX5_looksUp_s10 I R x1 x2 (fX5_fetch (va_up I 17 ((I 17) + 1)) R x1 x2)
    else
      (1, (va_up (va_up I 17 ((I 17) + 1)) 25 ((I 25) + 1)), (va_up (va_up R 10 (upd (R 10) ((16 * x1) + x2).toNatClampNeg (((R 10) ((16 * x1) + x2).toNatClampNeg) + 1))) 11 (upd (R 11) (I 25).toNatClampNeg x2)))
theorem hiX5_looksUp_5 : ∀ w ∈ wsX50, w ∈ wsX5_looksUp := by decide +kernel
theorem hfX5_looksUp_111 : Cond.fieldLink RX5 111 "ResolverFleetModel" "lastMany" "I" ∈ wsX5_looksUp := by decide +kernel
theorem hfX5_looksUp_26 : Cond.fieldLink RX5 26 "ResolverFleetModel" "told" "[I" ∈ wsX5_looksUp := by decide +kernel
theorem hfX5_looksUp_63 : Cond.fieldLink RX5 63 "ResolverFleetModel" "isUp" "Z" ∈ wsX5_looksUp := by decide +kernel
theorem hfX5_looksUp_121 : Cond.fieldLink RX5 121 "ResolverFleetModel" "lastStale" "Z" ∈ wsX5_looksUp := by decide +kernel
theorem hfX5_looksUp_95 : Cond.fieldLink RX5 95 "ResolverFleetModel" "now" "I" ∈ wsX5_looksUp := by decide +kernel
theorem hfX5_looksUp_35 : Cond.fieldLink RX5 35 "ResolverFleetModel" "ends" "[I" ∈ wsX5_looksUp := by decide +kernel
theorem hfX5_looksUp_38 : Cond.fieldLink RX5 38 "ResolverFleetModel" "hits" "[I" ∈ wsX5_looksUp := by decide +kernel
theorem hfX5_looksUp_41 : Cond.fieldLink RX5 41 "ResolverFleetModel" "fresh" "[I" ∈ wsX5_looksUp := by decide +kernel
theorem hfX5_looksUp_114 : Cond.fieldLink RX5 114 "ResolverFleetModel" "freshMany" "I" ∈ wsX5_looksUp := by decide +kernel
set_option maxHeartbeats 4000000 in
set_option maxRecDepth 100000 in
theorem kX5_looksUp (l : Launch) (hl : l.stackTraces = false) (K : zK) (am : Nat → Nat) (I : Nat → Int32) (R : Nat → Nat → Int32) (x1 : Int32) (x2 : Int32) (hs : vp_in x1 4) (hn : vp_in x2 16) (hf : vp_in (I 25) 8) : zMet l K yX5_looksUp wsX5_looksUp { frames := 2, cells := 0, slots := 0, locals := 46 } [.ref (am 0), .int x1, .int x2] [zMo K am I R] (some (.int ((fX5_looksUp I R x1 x2).1))) [zMo K am ((fX5_looksUp I R x1 x2).2.1) ((fX5_looksUp I R x1 x2).2.2)] True zNo := by
  refine zMeN.of (cc := cX5_looksUp) (maxL := 5) (ret := (some .boolean)) (own := RX5) (nm := "looksUp") hl (by decide +kernel) rfl rfl rfl (Nat.le_of_ble_eq_true rfl) (lv := [(0, .ref (am 0)), (1, .int x1), (2, .int x2)]) rfl ?_
  intro p e s m args below meth c A B
  refine z_bipush B (v := 16) dX5_looksUp_0 rfl ?_
  refine z_iload_n B dX5_looksUp_2 1 rfl ?_
  refine z_imul B dX5_looksUp_3 ?_
  refine z_iload_n B dX5_looksUp_4 2 rfl ?_
  refine z_iadd B dX5_looksUp_5 ?_
  refine z_istore_n B (lv' := [(3, .int ((16 * x1) + x2)), (0, .ref (am 0)), (1, .int x1), (2, .int x2)]) dX5_looksUp_6 (by decide) rfl ?_
  refine z_aload_n B dX5_looksUp_7 1 rfl ?_
  refine z_dup B dX5_looksUp_8 rfl ?_
  refine z_get B (v := .int (I 17)) 0 0 17 hiX5_looksUp_5 hfX5_looksUp_111 rfl rfl rfl (by decide) rfl rfl rfl rfl dX5_looksUp_9 ?_
  refine z_iconst B (v := 1) dX5_looksUp_12 rfl ?_
  refine z_iadd B dX5_looksUp_13 ?_
  refine z_put B 0 0 17 hiX5_looksUp_5 hfX5_looksUp_111 tyX5_ok nmX5 rfl rfl rfl (by decide) rfl rfl rfl rfl rfl rfl rfl (Nat.le_of_ble_eq_true rfl) (bs' := [zMo K am (va_up I 17 ((I 17) + 1)) R]) zMoI17 dX5_looksUp_14 ?_
  refine z_aload_n B dX5_looksUp_17 1 rfl ?_
  refine z_get B (v := .ref (am 6)) 0 0 10 hiX5_looksUp_5 hfX5_looksUp_26 rfl rfl rfl (by decide) rfl rfl rfl rfl dX5_looksUp_18 ?_
  refine z_iload_n B dX5_looksUp_21 0 rfl ?_
  refine z_iald B (N := 64) (f := (R 6)) 0 6 rfl rfl (z_ixn hs hn) dX5_looksUp_22 ?_
  refine z_iconst B (v := 3) dX5_looksUp_23 rfl ?_
  refine z_iceq B 72 dX5_looksUp_24 (by decide) (fun c1 => ?_) (fun c1 => ?_)
  · refine z_aload_n B dX5_looksUp_72 1 rfl ?_
    refine z_get B (v := .int (I 4)) 0 0 4 hiX5_looksUp_5 hfX5_looksUp_63 rfl rfl rfl (by decide) rfl rfl rfl rfl dX5_looksUp_73 ?_
    refine z_ifeq B 87 dX5_looksUp_76 (by decide) (fun c2 => ?_) (fun c2 => ?_)
    · refine z_aload_n B dX5_looksUp_87 1 rfl ?_
      refine z_get B (v := .ref (am 6)) 0 0 10 hiX5_looksUp_5 hfX5_looksUp_26 rfl rfl rfl (by decide) rfl rfl rfl rfl dX5_looksUp_88 ?_
      refine z_iload_n B dX5_looksUp_91 0 rfl ?_
      refine z_iald B (N := 64) (f := (R 6)) 0 6 rfl rfl (z_ixn hs hn) dX5_looksUp_92 ?_
      refine z_iconst B (v := 3) dX5_looksUp_93 rfl ?_
      refine z_iceq B 117 dX5_looksUp_94 (by decide) (fun _ => ?_) (fun h => absurd c1 h)
      refine z_iconst B (v := 0) dX5_looksUp_117 rfl ?_
      refine z_istore B (lv' := [(4, .int 0), (3, .int ((16 * x1) + x2)), (0, .ref (am 0)), (1, .int x1), (2, .int x2)]) dX5_looksUp_118 (by decide) rfl ?_
      refine z_aload_n B dX5_looksUp_120 2 rfl ?_
      refine z_aload_n B dX5_looksUp_121 2 rfl ?_
      refine z_get B (v := .int (I 16)) 0 0 16 hiX5_looksUp_5 hfX5_looksUp_121 rfl rfl rfl (by decide) rfl rfl rfl rfl dX5_looksUp_122 ?_
      refine z_ifne B 133 dX5_looksUp_125 (by decide) (fun c3 => ?_) (fun c3 => ?_)
      · refine z_iload B dX5_looksUp_128 0 rfl ?_
        refine z_ifeq B 137 dX5_looksUp_130 (by decide) (fun _ => ?_) (fun h => absurd (by decide) h)
        refine z_iconst B (v := 0) dX5_looksUp_137 rfl ?_
        refine z_put B 0 0 16 hiX5_looksUp_5 hfX5_looksUp_121 tyX5_ok nmX5 rfl rfl rfl (by decide) rfl rfl rfl rfl rfl rfl rfl (Nat.le_of_ble_eq_true rfl) (bs' := [zMo K am (va_up (va_up I 16 0) 17 ((I 17) + 1)) R]) rfl dX5_looksUp_138 ?_
        refine z_iload B dX5_looksUp_141 0 rfl ?_
        have hF : fX5_looksUp I R x1 x2 = (0, (va_up (va_up I 16 0) 17 ((I 17) + 1)), R) := (if_pos c1).trans ((if_pos c2).trans (if_pos c3))
        exact z_ret1 B rfl dX5_looksUp_143 () (trivial) (Nat.le_of_ble_eq_true rfl) (Nat.le_of_ble_eq_true rfl) (by rw [hF]) (by rw [hF])
      · refine z_iconst B (v := 1) dX5_looksUp_133 rfl ?_
        refine z_goto B (tgt := 138) dX5_looksUp_134 (by decide) ?_
        refine z_put B 0 0 16 hiX5_looksUp_5 hfX5_looksUp_121 tyX5_ok nmX5 rfl rfl rfl (by decide) rfl rfl rfl rfl rfl rfl rfl (Nat.le_of_ble_eq_true rfl) (bs' := [zMo K am (va_up (va_up I 16 1) 17 ((I 17) + 1)) R]) rfl dX5_looksUp_138 ?_
        refine z_iload B dX5_looksUp_141 0 rfl ?_
        have hF : fX5_looksUp I R x1 x2 = (0, (va_up (va_up I 16 1) 17 ((I 17) + 1)), R) := (if_pos c1).trans ((if_pos c2).trans (if_neg c3))
        exact z_ret1 B rfl dX5_looksUp_143 () (trivial) (Nat.le_of_ble_eq_true rfl) (Nat.le_of_ble_eq_true rfl) (by rw [hF]) (by rw [hF])
    · refine z_aload_n B dX5_looksUp_79 1 rfl ?_
      refine z_iload_n B dX5_looksUp_80 2 rfl ?_
      refine z_iload_n B dX5_looksUp_81 3 rfl ?_
      refine z_V0 B (kX5_fetch l hl K am (va_up I 17 ((I 17) + 1)) R x1 x2 hs hn) [0] [] (br := []) (bs' := [zMo K am ((fX5_fetch (va_up I 17 ((I 17) + 1)) R x1 x2).1) ((fX5_fetch (va_up I 17 ((I 17) + 1)) R x1 x2).2)]) (st := []) (nA := 2) (zsp rfl rfl rfl) (zsp rfl rfl rfl) 0 0 rfl rfl rfl rfl gX5_looksUp_X5_fetch rfl (by decide +kernel) ⟨Nat.le_of_ble_eq_true rfl, Nat.le_of_ble_eq_true rfl⟩ rfl rfl (Nat.le_of_ble_eq_true rfl) ⟨Nat.le_of_ble_eq_true rfl, Nat.le_of_ble_eq_true rfl⟩ dX5_looksUp_82 z_noX (fun _ => ?_)
      generalize ho4 : (fX5_fetch (va_up I 17 ((I 17) + 1)) R x1 x2) = o4
      refine z_iconst B (v := 1) dX5_looksUp_85 rfl ?_
      have hF : fX5_looksUp I R x1 x2 = (1, (o4.1), (o4.2)) := (if_pos c1).trans ((if_neg c2).trans (congrArg (fun o => fX5_looksUp_s4 I R x1 x2 o) ho4))
      exact z_ret1 B rfl dX5_looksUp_86 () (trivial) (Nat.le_of_ble_eq_true rfl) (Nat.le_of_ble_eq_true rfl) (by rw [hF]) (by rw [hF])
  · refine z_aload_n B dX5_looksUp_27 1 rfl ?_
    refine z_get B (v := .int (I 8)) 0 0 8 hiX5_looksUp_5 hfX5_looksUp_95 rfl rfl rfl (by decide) rfl rfl rfl rfl dX5_looksUp_28 ?_
    refine z_aload_n B dX5_looksUp_31 1 rfl ?_
    refine z_get B (v := .ref (am 9)) 0 0 13 hiX5_looksUp_5 hfX5_looksUp_35 rfl rfl rfl (by decide) rfl rfl rfl rfl dX5_looksUp_32 ?_
    refine z_iload_n B dX5_looksUp_35 0 rfl ?_
    refine z_iald B (N := 64) (f := (R 9)) 0 9 rfl rfl (z_ixn hs hn) dX5_looksUp_36 ?_
    refine z_icge B 72 dX5_looksUp_37 (by decide) (fun c5 => ?_) (fun c5 => ?_)
    · refine z_aload_n B dX5_looksUp_72 1 rfl ?_
      refine z_get B (v := .int (I 4)) 0 0 4 hiX5_looksUp_5 hfX5_looksUp_63 rfl rfl rfl (by decide) rfl rfl rfl rfl dX5_looksUp_73 ?_
      refine z_ifeq B 87 dX5_looksUp_76 (by decide) (fun c6 => ?_) (fun c6 => ?_)
      · refine z_aload_n B dX5_looksUp_87 1 rfl ?_
        refine z_get B (v := .ref (am 6)) 0 0 10 hiX5_looksUp_5 hfX5_looksUp_26 rfl rfl rfl (by decide) rfl rfl rfl rfl dX5_looksUp_88 ?_
        refine z_iload_n B dX5_looksUp_91 0 rfl ?_
        refine z_iald B (N := 64) (f := (R 6)) 0 6 rfl rfl (z_ixn hs hn) dX5_looksUp_92 ?_
        refine z_iconst B (v := 3) dX5_looksUp_93 rfl ?_
        refine z_iceq B 117 dX5_looksUp_94 (by decide) (fun h => absurd h c1) (fun _ => ?_)
        refine z_aload_n B dX5_looksUp_97 1 rfl ?_
        refine z_get B (v := .int (I 8)) 0 0 8 hiX5_looksUp_5 hfX5_looksUp_95 rfl rfl rfl (by decide) rfl rfl rfl rfl dX5_looksUp_98 ?_
        refine z_aload_n B dX5_looksUp_101 1 rfl ?_
        refine z_get B (v := .ref (am 9)) 0 0 13 hiX5_looksUp_5 hfX5_looksUp_35 rfl rfl rfl (by decide) rfl rfl rfl rfl dX5_looksUp_102 ?_
        refine z_iload_n B dX5_looksUp_105 0 rfl ?_
        refine z_iald B (N := 64) (f := (R 9)) 0 9 rfl rfl (z_ixn hs hn) dX5_looksUp_106 ?_
        refine z_isub B dX5_looksUp_107 ?_
        refine z_bipush B (v := 100) dX5_looksUp_108 rfl ?_
        refine z_icge B 117 dX5_looksUp_110 (by decide) (fun c7 => ?_) (fun c7 => ?_)
        · refine z_iconst B (v := 0) dX5_looksUp_117 rfl ?_
          refine z_istore B (lv' := [(4, .int 0), (3, .int ((16 * x1) + x2)), (0, .ref (am 0)), (1, .int x1), (2, .int x2)]) dX5_looksUp_118 (by decide) rfl ?_
          refine z_aload_n B dX5_looksUp_120 2 rfl ?_
          refine z_aload_n B dX5_looksUp_121 2 rfl ?_
          refine z_get B (v := .int (I 16)) 0 0 16 hiX5_looksUp_5 hfX5_looksUp_121 rfl rfl rfl (by decide) rfl rfl rfl rfl dX5_looksUp_122 ?_
          refine z_ifne B 133 dX5_looksUp_125 (by decide) (fun c8 => ?_) (fun c8 => ?_)
          · refine z_iload B dX5_looksUp_128 0 rfl ?_
            refine z_ifeq B 137 dX5_looksUp_130 (by decide) (fun _ => ?_) (fun h => absurd (by decide) h)
            refine z_iconst B (v := 0) dX5_looksUp_137 rfl ?_
            refine z_put B 0 0 16 hiX5_looksUp_5 hfX5_looksUp_121 tyX5_ok nmX5 rfl rfl rfl (by decide) rfl rfl rfl rfl rfl rfl rfl (Nat.le_of_ble_eq_true rfl) (bs' := [zMo K am (va_up (va_up I 16 0) 17 ((I 17) + 1)) R]) rfl dX5_looksUp_138 ?_
            refine z_iload B dX5_looksUp_141 0 rfl ?_
            have hF : fX5_looksUp I R x1 x2 = (0, (va_up (va_up I 16 0) 17 ((I 17) + 1)), R) := (if_neg c1).trans ((if_pos c5).trans ((if_pos c6).trans ((if_pos c7).trans (if_pos c8))))
            exact z_ret1 B rfl dX5_looksUp_143 () (trivial) (Nat.le_of_ble_eq_true rfl) (Nat.le_of_ble_eq_true rfl) (by rw [hF]) (by rw [hF])
          · refine z_iconst B (v := 1) dX5_looksUp_133 rfl ?_
            refine z_goto B (tgt := 138) dX5_looksUp_134 (by decide) ?_
            refine z_put B 0 0 16 hiX5_looksUp_5 hfX5_looksUp_121 tyX5_ok nmX5 rfl rfl rfl (by decide) rfl rfl rfl rfl rfl rfl rfl (Nat.le_of_ble_eq_true rfl) (bs' := [zMo K am (va_up (va_up I 16 1) 17 ((I 17) + 1)) R]) rfl dX5_looksUp_138 ?_
            refine z_iload B dX5_looksUp_141 0 rfl ?_
            have hF : fX5_looksUp I R x1 x2 = (0, (va_up (va_up I 16 1) 17 ((I 17) + 1)), R) := (if_neg c1).trans ((if_pos c5).trans ((if_pos c6).trans ((if_pos c7).trans (if_neg c8))))
            exact z_ret1 B rfl dX5_looksUp_143 () (trivial) (Nat.le_of_ble_eq_true rfl) (Nat.le_of_ble_eq_true rfl) (by rw [hF]) (by rw [hF])
        · refine z_iconst B (v := 1) dX5_looksUp_113 rfl ?_
          refine z_goto B (tgt := 118) dX5_looksUp_114 (by decide) ?_
          refine z_istore B (lv' := [(4, .int 1), (3, .int ((16 * x1) + x2)), (0, .ref (am 0)), (1, .int x1), (2, .int x2)]) dX5_looksUp_118 (by decide) rfl ?_
          refine z_aload_n B dX5_looksUp_120 2 rfl ?_
          refine z_aload_n B dX5_looksUp_121 2 rfl ?_
          refine z_get B (v := .int (I 16)) 0 0 16 hiX5_looksUp_5 hfX5_looksUp_121 rfl rfl rfl (by decide) rfl rfl rfl rfl dX5_looksUp_122 ?_
          refine z_ifne B 133 dX5_looksUp_125 (by decide) (fun c9 => ?_) (fun c9 => ?_)
          · refine z_iload B dX5_looksUp_128 0 rfl ?_
            refine z_ifeq B 137 dX5_looksUp_130 (by decide) (fun h => absurd h (by decide)) (fun _ => ?_)
            refine z_iconst B (v := 1) dX5_looksUp_133 rfl ?_
            refine z_goto B (tgt := 138) dX5_looksUp_134 (by decide) ?_
            refine z_put B 0 0 16 hiX5_looksUp_5 hfX5_looksUp_121 tyX5_ok nmX5 rfl rfl rfl (by decide) rfl rfl rfl rfl rfl rfl rfl (Nat.le_of_ble_eq_true rfl) (bs' := [zMo K am (va_up (va_up I 16 1) 17 ((I 17) + 1)) R]) rfl dX5_looksUp_138 ?_
            refine z_iload B dX5_looksUp_141 0 rfl ?_
            have hF : fX5_looksUp I R x1 x2 = (1, (va_up (va_up I 16 1) 17 ((I 17) + 1)), R) := (if_neg c1).trans ((if_pos c5).trans ((if_pos c6).trans ((if_neg c7).trans (if_pos c9))))
            exact z_ret1 B rfl dX5_looksUp_143 () (trivial) (Nat.le_of_ble_eq_true rfl) (Nat.le_of_ble_eq_true rfl) (by rw [hF]) (by rw [hF])
          · refine z_iconst B (v := 1) dX5_looksUp_133 rfl ?_
            refine z_goto B (tgt := 138) dX5_looksUp_134 (by decide) ?_
            refine z_put B 0 0 16 hiX5_looksUp_5 hfX5_looksUp_121 tyX5_ok nmX5 rfl rfl rfl (by decide) rfl rfl rfl rfl rfl rfl rfl (Nat.le_of_ble_eq_true rfl) (bs' := [zMo K am (va_up (va_up I 16 1) 17 ((I 17) + 1)) R]) rfl dX5_looksUp_138 ?_
            refine z_iload B dX5_looksUp_141 0 rfl ?_
            have hF : fX5_looksUp I R x1 x2 = (1, (va_up (va_up I 16 1) 17 ((I 17) + 1)), R) := (if_neg c1).trans ((if_pos c5).trans ((if_pos c6).trans ((if_neg c7).trans (if_neg c9))))
            exact z_ret1 B rfl dX5_looksUp_143 () (trivial) (Nat.le_of_ble_eq_true rfl) (Nat.le_of_ble_eq_true rfl) (by rw [hF]) (by rw [hF])
      · refine z_aload_n B dX5_looksUp_79 1 rfl ?_
        refine z_iload_n B dX5_looksUp_80 2 rfl ?_
        refine z_iload_n B dX5_looksUp_81 3 rfl ?_
        refine z_V0 B (kX5_fetch l hl K am (va_up I 17 ((I 17) + 1)) R x1 x2 hs hn) [0] [] (br := []) (bs' := [zMo K am ((fX5_fetch (va_up I 17 ((I 17) + 1)) R x1 x2).1) ((fX5_fetch (va_up I 17 ((I 17) + 1)) R x1 x2).2)]) (st := []) (nA := 2) (zsp rfl rfl rfl) (zsp rfl rfl rfl) 0 0 rfl rfl rfl rfl gX5_looksUp_X5_fetch rfl (by decide +kernel) ⟨Nat.le_of_ble_eq_true rfl, Nat.le_of_ble_eq_true rfl⟩ rfl rfl (Nat.le_of_ble_eq_true rfl) ⟨Nat.le_of_ble_eq_true rfl, Nat.le_of_ble_eq_true rfl⟩ dX5_looksUp_82 z_noX (fun _ => ?_)
        generalize ho10 : (fX5_fetch (va_up I 17 ((I 17) + 1)) R x1 x2) = o10
        refine z_iconst B (v := 1) dX5_looksUp_85 rfl ?_
        have hF : fX5_looksUp I R x1 x2 = (1, (o10.1), (o10.2)) := (if_neg c1).trans ((if_pos c5).trans ((if_neg c6).trans (congrArg (fun o => fX5_looksUp_s10 I R x1 x2 o) ho10)))
        exact z_ret1 B rfl dX5_looksUp_86 () (trivial) (Nat.le_of_ble_eq_true rfl) (Nat.le_of_ble_eq_true rfl) (by rw [hF]) (by rw [hF])
    · refine z_aload_n B dX5_looksUp_40 1 rfl ?_
      refine z_get B (v := .ref (am 10)) 0 0 14 hiX5_looksUp_5 hfX5_looksUp_38 rfl rfl rfl (by decide) rfl rfl rfl rfl dX5_looksUp_41 ?_
      refine z_iload_n B dX5_looksUp_44 0 rfl ?_
      refine z_dup2 B dX5_looksUp_45 rfl rfl ?_
      refine z_iald B (N := 64) (f := (R 10)) 0 10 rfl rfl (z_ixn hs hn) dX5_looksUp_46 ?_
      refine z_iconst B (v := 1) dX5_looksUp_47 rfl ?_
      refine z_iadd B dX5_looksUp_48 ?_
      refine z_iast B (N := 64) (f := (R 10)) 0 10 rfl rfl (z_ixn hs hn) (bs' := [zMo K am (va_up I 17 ((I 17) + 1)) (va_up R 10 (upd (R 10) ((16 * x1) + x2).toNatClampNeg (((R 10) ((16 * x1) + x2).toNatClampNeg) + 1)))]) zMoR10 dX5_looksUp_49 ?_
      refine z_aload_n B dX5_looksUp_50 1 rfl ?_
      refine z_get B (v := .ref (am 11)) 0 0 24 hiX5_looksUp_5 hfX5_looksUp_41 rfl rfl rfl (by decide) rfl rfl rfl rfl dX5_looksUp_51 ?_
      refine z_aload_n B dX5_looksUp_54 1 rfl ?_
      refine z_get B (v := .int (I 25)) 0 0 25 hiX5_looksUp_5 hfX5_looksUp_114 rfl rfl rfl (by decide) rfl rfl rfl rfl dX5_looksUp_55 ?_
      refine z_iload_n B dX5_looksUp_58 3 rfl ?_
      refine z_iast B (N := 8) (f := (R 11)) 0 11 rfl rfl hf (bs' := [zMo K am (va_up I 17 ((I 17) + 1)) (va_up (va_up R 10 (upd (R 10) ((16 * x1) + x2).toNatClampNeg (((R 10) ((16 * x1) + x2).toNatClampNeg) + 1))) 11 (upd (R 11) (I 25).toNatClampNeg x2))]) zMoR11 dX5_looksUp_59 ?_
      refine z_aload_n B dX5_looksUp_60 1 rfl ?_
      refine z_dup B dX5_looksUp_61 rfl ?_
      refine z_get B (v := .int (I 25)) 0 0 25 hiX5_looksUp_5 hfX5_looksUp_114 rfl rfl rfl (by decide) rfl rfl rfl rfl dX5_looksUp_62 ?_
      refine z_iconst B (v := 1) dX5_looksUp_65 rfl ?_
      refine z_iadd B dX5_looksUp_66 ?_
      refine z_put B 0 0 25 hiX5_looksUp_5 hfX5_looksUp_114 tyX5_ok nmX5 rfl rfl rfl (by decide) rfl rfl rfl rfl rfl rfl rfl (Nat.le_of_ble_eq_true rfl) (bs' := [zMo K am (va_up (va_up I 17 ((I 17) + 1)) 25 ((I 25) + 1)) (va_up (va_up R 10 (upd (R 10) ((16 * x1) + x2).toNatClampNeg (((R 10) ((16 * x1) + x2).toNatClampNeg) + 1))) 11 (upd (R 11) (I 25).toNatClampNeg x2))]) zMoI25 dX5_looksUp_67 ?_
      refine z_iconst B (v := 1) dX5_looksUp_70 rfl ?_
      have hF : fX5_looksUp I R x1 x2 = (1, (va_up (va_up I 17 ((I 17) + 1)) 25 ((I 25) + 1)), (va_up (va_up R 10 (upd (R 10) ((16 * x1) + x2).toNatClampNeg (((R 10) ((16 * x1) + x2).toNatClampNeg) + 1))) 11 (upd (R 11) (I 25).toNatClampNeg x2))) := (if_neg c1).trans (if_neg c5)
      exact z_ret1 B rfl dX5_looksUp_71 () (trivial) (Nat.le_of_ble_eq_true rfl) (Nat.le_of_ble_eq_true rfl) (by rw [hF]) (by rw [hF])
theorem z_lkR {I : Nat → Int32} {R : Nat → Nat → Int32} {x y : Int32} {k : Nat} (h : k < 6 ∨ 11 < k) : (fX5_looksUp I R x y).2.2 k = R k := by
  have hf : (fX5_fetch (va_up I 17 ((I 17) + 1)) R x y).2 k = R k := z_fR (by omega)
  unfold fX5_looksUp
  split
  · split
    · split <;> rfl
    · exact hf
  · split
    · split
      · split
        · split <;> rfl
        · split <;> rfl
      · exact hf
    · have h1 : k ≠ 10 ∧ k ≠ 11 := by omega
      simp [va_up, h1]
theorem z_lkI {I : Nat → Int32} {R : Nat → Nat → Int32} {x y : Int32} {k : Nat} (h : k < 16 ∨ k = 19 ∨ (20 < k ∧ k < 25)) : (fX5_looksUp I R x y).2.1 k = I k := by
  have hk : k ≠ 16 ∧ k ≠ 17 ∧ k ≠ 25 ∧ k ≠ 18 ∧ k ≠ 20 := by omega
  have hf : (fX5_fetch (va_up I 17 ((I 17) + 1)) R x y).1 k = I k := (z_fI ⟨hk.2.2.2.1, hk.2.2.2.2⟩).trans (by simp [va_up, hk])
  unfold fX5_looksUp
  split
  · split
    · split <;> simp [va_up, hk]
    · exact hf
  · split
    · split
      · split
        · split <;> simp [va_up, hk]
        · split <;> simp [va_up, hk]
      · exact hf
    · simp [va_up, hk]
theorem z_lkZ {I : Nat → Int32} {R : Nat → Nat → Int32} {x y : Int32} (h : zwZ R) : zwZ (fX5_looksUp I R x y).2.2 := z_Zs (z_lkR (by omega)) (z_lkR (by omega)) h
theorem z_lkC {I : Nat → Int32} {R : Nat → Nat → Int32} {x y : Int32} (hs : vp_in x 4) (hn : vp_in y 16) (hZ : zwZ R) (hC : zwC R) : zwC (fX5_looksUp I R x y).2.2 := by
  have hf : zwC (fX5_fetch (va_up I 17 ((I 17) + 1)) R x y).2 := z_fC hn hZ hC
  unfold fX5_looksUp
  split
  · split
    · split <;> exact hC
    · exact hf
  · split
    · split
      · split
        · split <;> exact hC
        · split <;> exact hC
      · exact hf
    · exact hC
theorem z_lkN {I : Nat → Int32} {R : Nat → Nat → Int32} {x y : Int32} (hs : vp_in x 4) (hn : vp_in y 16) (hZ : zwZ R) (hC : zwC R) (h : ((fX5_looksUp I R x y).2.2 6) (16 * x + y).toNatClampNeg = 1) : vp_in (((fX5_looksUp I R x y).2.2 7) (16 * x + y).toNatClampNeg) 16 := z_lkC hs hn hZ hC _ (z_nat (z_ixn hs hn)) h
/-- the fresh names: at most a of them, each a name -/
def zwF (a : Nat) (I : Nat → Int32) (R : Nat → Nat → Int32) : Prop := ∃ j, j ≤ a ∧ I 25 = nI j ∧ ∀ k, k < j → vp_in ((R 11) k) 16
theorem z_lkF {I : Nat → Int32} {R : Nat → Nat → Int32} {x y : Int32} {a : Nat} (h : ∃ j, j ≤ a ∧ I 25 = nI j) : ∃ j, j ≤ a + 1 ∧ (fX5_looksUp I R x y).2.1 25 = nI j := by
  obtain ⟨j, hj, ej⟩ := h
  have hf : (fX5_fetch (va_up I 17 ((I 17) + 1)) R x y).1 25 = nI j := (z_fI (by decide)).trans ej
  have g : ∃ j, j ≤ a + 1 ∧ I 25 = nI j := ⟨j, by omega, ej⟩
  unfold fX5_looksUp
  split
  · split
    · split <;> exact g
    · exact ⟨j, by omega, hf⟩
  · split
    · split
      · split
        · split <;> exact g
        · split <;> exact g
      · exact ⟨j, by omega, hf⟩
    · exact ⟨j + 1, by omega, by show I 25 + 1 = _; rw [ej, nI_1]⟩
theorem z_lkW {I : Nat → Int32} {R : Nat → Nat → Int32} {x y : Int32} {a : Nat} (hn : vp_in y 16) (ha : a < 8) (h : zwF a I R) : zwF (a + 1) (fX5_looksUp I R x y).2.1 (fX5_looksUp I R x y).2.2 := by
  obtain ⟨j, hj, ej, hr⟩ := h
  have hf : (fX5_fetch (va_up I 17 ((I 17) + 1)) R x y).1 25 = nI j := (z_fI (by decide)).trans ej
  have hf2 : (fX5_fetch (va_up I 17 ((I 17) + 1)) R x y).2 11 = R 11 := z_fR (by omega)
  have g : zwF (a + 1) I R := ⟨j, by omega, ej, hr⟩
  have gf : zwF (a + 1) (fX5_fetch (va_up I 17 ((I 17) + 1)) R x y).1 (fX5_fetch (va_up I 17 ((I 17) + 1)) R x y).2 := ⟨j, by omega, hf, by rw [hf2]; exact hr⟩
  unfold fX5_looksUp
  split
  · split
    · split <;> exact g
    · exact gf
  · split
    · split
      · split
        · split <;> exact g
        · split <;> exact g
      · exact gf
    · refine ⟨j + 1, by omega, by show I 25 + 1 = _; rw [ej, nI_1], fun k hk => ?_⟩
      show vp_in (upd (R 11) (I 25).toNatClampNeg y k) 16
      rw [ej, nI_clamp (by omega)]
      unfold upd
      by_cases e : k = j
      · rw [if_pos e]; exact hn
      · rw [if_neg e]; exact hr k (by omega)

def fX5_resolve_L5 (I : Nat → Int32) (R : Nat → Nat → Int32) (x1 : Int32) (x2 : Int32) : Nat → Nat → (Int32) → (Nat → Int32) → (Nat → Nat → Int32) → Int32 × (Nat → Int32) × (Nat → Nat → Int32)
  | 0, a, nx, I1, R1 =>
    ((-2), I1, R1)
  | n + 1, a, nx, I1, R1 =>
    if ((fX5_looksUp I1 R1 x1 nx).1) = 0 then
      ((-2), ((fX5_looksUp I1 R1 x1 nx).2.1), ((fX5_looksUp I1 R1 x1 nx).2.2))
    else
      if ((((fX5_looksUp I1 R1 x1 nx).2.2) 6) ((16 * x1) + nx).toNatClampNeg) = 1 then
        fX5_resolve_L5 I R x1 x2 n (a + 1) ((((fX5_looksUp I1 R1 x1 nx).2.2) 7) ((16 * x1) + nx).toNatClampNeg) ((fX5_looksUp I1 R1 x1 nx).2.1) ((fX5_looksUp I1 R1 x1 nx).2.2)
      else
        if ((((fX5_looksUp I1 R1 x1 nx).2.2) 6) ((16 * x1) + nx).toNatClampNeg) = 0 then
          (((((fX5_looksUp I1 R1 x1 nx).2.2) 7) ((16 * x1) + nx).toNatClampNeg), ((fX5_looksUp I1 R1 x1 nx).2.1), ((fX5_looksUp I1 R1 x1 nx).2.2))
        else
          ((-1), ((fX5_looksUp I1 R1 x1 nx).2.1), ((fX5_looksUp I1 R1 x1 nx).2.2))
def fX5_resolve (I : Nat → Int32) (R : Nat → Nat → Int32) (x1 : Int32) (x2 : Int32) : Int32 × (Nat → Int32) × (Nat → Nat → Int32) :=
  fX5_resolve_L5 I R x1 x2 5 0 x2 I R
theorem hiX5_resolve_5 : ∀ w ∈ wsX50, w ∈ wsX5_resolve := by decide +kernel
theorem hfX5_resolve_26 : Cond.fieldLink RX5 26 "ResolverFleetModel" "told" "[I" ∈ wsX5_resolve := by decide +kernel
theorem hfX5_resolve_29 : Cond.fieldLink RX5 29 "ResolverFleetModel" "tells" "[I" ∈ wsX5_resolve := by decide +kernel
set_option maxHeartbeats 4000000 in
set_option maxRecDepth 100000 in
theorem kX5_resolve_L5 (l : Launch) (hl : l.stackTraces = false) (K : zK) (am : Nat → Nat) (I : Nat → Int32) (R : Nat → Nat → Int32) (x1 : Int32) (x2 : Int32) (hs : vp_in x1 4) (hn : vp_in x2 16) (hZ : zwZ R) (hC : zwC R) (hf0 : (I 25) = 0) {p : Program} {e : Env} {s : State} {m : MethodId} {args : Array Value} {below : List Frame} {meth : Method} {c : Code} {A : Nat → Prop} (B : zF K p l s m args meth c A cX5_resolve 6 RX5 "resolve" wsX5_resolve (some .int) []) : ∀ (n a : Nat) (nx : Int32) (I1 : Nat → Int32) (R1 : Nat → Nat → Int32), a + n = 5 → (vp_in nx 16) → (zwZ R1) → (zwC R1) → (∃ j, j ≤ a ∧ (I1 25) = nI j) → fX5_resolve I R x1 x2 = fX5_resolve_L5 I R x1 x2 n a nx I1 R1 → zW K p l e { frames := 3, cells := 0, slots := 0, locals := 70 } s m args below meth c A (vx_MQ below (zQ K A (fun _ : Unit => ((some (.int ((fX5_resolve I R x1 x2).1))), [zMo K am ((fX5_resolve I R x1 x2).2.1) ((fX5_resolve I R x1 x2).2.2)])) (fun _ => True)) (zX K A [zMo K am I R] zNo) args s 0 0 A) 0 0 [zMo K am I1 R1] [(0, .ref (am 0)), (1, .int x1), (2, .int x2), (3, .int nx), (4, .int (nI a))] [] 5 := by
  intro n
  induction n with
  | zero =>
    intro a nx I1 R1 ha hnx hZ1 hC1 hfm hF0
    refine z_iload B dX5_resolve_5 4 rfl ?_
    refine z_iconst B (v := 4) dX5_resolve_7 rfl ?_
    refine z_icgt B 78 dX5_resolve_8 (by decide) (fun _ => ?_) (fun h => absurd (z_lgt0 ha (by decide)) h)
    refine z_bipush B (v := (-2)) dX5_resolve_78 rfl ?_
    have hF : fX5_resolve I R x1 x2 = ((-2), I1, R1) := hF0
    exact z_ret1 B rfl dX5_resolve_80 () (trivial) (Nat.le_of_ble_eq_true rfl) (Nat.le_of_ble_eq_true rfl) (by rw [hF]) (by rw [hF])
  | succ n ih =>
    intro a nx I1 R1 ha hnx hZ1 hC1 hfm hF0
    refine z_iload B dX5_resolve_5 4 rfl ?_
    refine z_iconst B (v := 4) dX5_resolve_7 rfl ?_
    refine z_icgt B 78 dX5_resolve_8 (by decide) (fun h => absurd h (z_lgtS ha (by decide))) (fun _ => ?_)
    refine z_aload_n B dX5_resolve_11 0 rfl ?_
    refine z_iload_n B dX5_resolve_12 1 rfl ?_
    refine z_iload_n B dX5_resolve_13 3 rfl ?_
    refine z_V1 B (kX5_looksUp l hl K am I1 R1 x1 nx hs hnx (z_j8 hfm (by omega))) [0] [] (br := []) (bs' := [zMo K am ((fX5_looksUp I1 R1 x1 nx).2.1) ((fX5_looksUp I1 R1 x1 nx).2.2)]) (st := []) (nA := 2) (zsp rfl rfl rfl) (zsp rfl rfl rfl) 0 0 rfl rfl rfl rfl gX5_resolve_X5_looksUp rfl (by decide +kernel) ⟨Nat.le_of_ble_eq_true rfl, Nat.le_of_ble_eq_true rfl⟩ rfl rfl (Nat.le_of_ble_eq_true rfl) ⟨Nat.le_of_ble_eq_true rfl, Nat.le_of_ble_eq_true rfl⟩ dX5_resolve_14 z_noX (fun _ => ?_)
    refine z_ifne B 23 dX5_resolve_17 (by decide) (fun c1 => ?_) (fun c1 => ?_)
    · refine z_bipush B (v := (-2)) dX5_resolve_20 rfl ?_
      have hF : fX5_resolve I R x1 x2 = ((-2), ((fX5_looksUp I1 R1 x1 nx).2.1), ((fX5_looksUp I1 R1 x1 nx).2.2)) := (hF0).trans (if_pos c1)
      exact z_ret1 B rfl dX5_resolve_22 () (trivial) (Nat.le_of_ble_eq_true rfl) (Nat.le_of_ble_eq_true rfl) (by rw [hF]) (by rw [hF])
    · refine z_bipush B (v := 16) dX5_resolve_23 rfl ?_
      refine z_iload_n B dX5_resolve_25 1 rfl ?_
      refine z_imul B dX5_resolve_26 ?_
      refine z_iload_n B dX5_resolve_27 3 rfl ?_
      refine z_iadd B dX5_resolve_28 ?_
      refine z_istore B (lv' := [(5, .int ((16 * x1) + nx)), (0, .ref (am 0)), (1, .int x1), (2, .int x2), (3, .int nx), (4, .int (nI a))]) dX5_resolve_29 (by decide) rfl ?_
      refine z_aload_n B dX5_resolve_31 1 rfl ?_
      refine z_get B (v := .ref (am 6)) 0 0 10 hiX5_resolve_5 hfX5_resolve_26 rfl rfl rfl (by decide) rfl rfl rfl rfl dX5_resolve_32 ?_
      refine z_iload B dX5_resolve_35 0 rfl ?_
      refine z_iald B (N := 64) (f := (((fX5_looksUp I1 R1 x1 nx).2.2) 6)) 0 6 rfl rfl (z_ixn hs hnx) dX5_resolve_37 ?_
      refine z_iconst B (v := 1) dX5_resolve_38 rfl ?_
      refine z_iceq B 64 dX5_resolve_39 (by decide) (fun c2 => ?_) (fun c2 => ?_)
      · refine z_aload_n B dX5_resolve_64 1 rfl ?_
        refine z_get B (v := .ref (am 7)) 0 0 11 hiX5_resolve_5 hfX5_resolve_29 rfl rfl rfl (by decide) rfl rfl rfl rfl dX5_resolve_65 ?_
        refine z_iload B dX5_resolve_68 0 rfl ?_
        refine z_iald B (N := 64) (f := (((fX5_looksUp I1 R1 x1 nx).2.2) 7)) 0 7 rfl rfl (z_ixn hs hnx) dX5_resolve_70 ?_
        refine z_istore_n B (lv' := [(3, .int ((((fX5_looksUp I1 R1 x1 nx).2.2) 7) ((16 * x1) + nx).toNatClampNeg)), (5, .int ((16 * x1) + nx)), (0, .ref (am 0)), (1, .int x1), (2, .int x2), (4, .int (nI a))]) dX5_resolve_71 (by decide) rfl ?_
        refine z_iinc B (v := nI (a + 1)) (lv' := [(4, .int (nI (a + 1))), (3, .int ((((fX5_looksUp I1 R1 x1 nx).2.2) 7) ((16 * x1) + nx).toNatClampNeg)), (5, .int ((16 * x1) + nx)), (0, .ref (am 0)), (1, .int x1), (2, .int x2)]) dX5_resolve_72 5 rfl (nI_1 a) (by decide) rfl ?_
        refine z_goto B (tgt := 5) dX5_resolve_75 (by decide) ?_
        refine z_lsub [3, 4, 5, 1, 0] rfl ?_
        have hF : fX5_resolve I R x1 x2 = fX5_resolve_L5 I R x1 x2 n (a + 1) ((((fX5_looksUp I1 R1 x1 nx).2.2) 7) ((16 * x1) + nx).toNatClampNeg) ((fX5_looksUp I1 R1 x1 nx).2.1) ((fX5_looksUp I1 R1 x1 nx).2.2) := (hF0).trans ((if_neg c1).trans (if_pos c2))
        exact ih (a + 1) ((((fX5_looksUp I1 R1 x1 nx).2.2) 7) ((16 * x1) + nx).toNatClampNeg) ((fX5_looksUp I1 R1 x1 nx).2.1) ((fX5_looksUp I1 R1 x1 nx).2.2) (by omega) (z_lkN hs hnx hZ1 hC1 c2) (z_lkZ hZ1) (z_lkC hs hnx hZ1 hC1) (z_lkF hfm) hF
      · refine z_aload_n B dX5_resolve_42 1 rfl ?_
        refine z_get B (v := .ref (am 6)) 0 0 10 hiX5_resolve_5 hfX5_resolve_26 rfl rfl rfl (by decide) rfl rfl rfl rfl dX5_resolve_43 ?_
        refine z_iload B dX5_resolve_46 0 rfl ?_
        refine z_iald B (N := 64) (f := (((fX5_looksUp I1 R1 x1 nx).2.2) 6)) 0 6 rfl rfl (z_ixn hs hnx) dX5_resolve_48 ?_
        refine z_ifne B 62 dX5_resolve_49 (by decide) (fun c3 => ?_) (fun c3 => ?_)
        · refine z_aload_n B dX5_resolve_52 1 rfl ?_
          refine z_get B (v := .ref (am 7)) 0 0 11 hiX5_resolve_5 hfX5_resolve_29 rfl rfl rfl (by decide) rfl rfl rfl rfl dX5_resolve_53 ?_
          refine z_iload B dX5_resolve_56 0 rfl ?_
          refine z_iald B (N := 64) (f := (((fX5_looksUp I1 R1 x1 nx).2.2) 7)) 0 7 rfl rfl (z_ixn hs hnx) dX5_resolve_58 ?_
          refine z_goto B (tgt := 63) dX5_resolve_59 (by decide) ?_
          have hF : fX5_resolve I R x1 x2 = (((((fX5_looksUp I1 R1 x1 nx).2.2) 7) ((16 * x1) + nx).toNatClampNeg), ((fX5_looksUp I1 R1 x1 nx).2.1), ((fX5_looksUp I1 R1 x1 nx).2.2)) := (hF0).trans ((if_neg c1).trans ((if_neg c2).trans (if_pos c3)))
          exact z_ret1 B rfl dX5_resolve_63 () (trivial) (Nat.le_of_ble_eq_true rfl) (Nat.le_of_ble_eq_true rfl) (by rw [hF]) (by rw [hF])
        · refine z_iconst B (v := (-1)) dX5_resolve_62 rfl ?_
          have hF : fX5_resolve I R x1 x2 = ((-1), ((fX5_looksUp I1 R1 x1 nx).2.1), ((fX5_looksUp I1 R1 x1 nx).2.2)) := (hF0).trans ((if_neg c1).trans ((if_neg c2).trans (if_neg c3)))
          exact z_ret1 B rfl dX5_resolve_63 () (trivial) (Nat.le_of_ble_eq_true rfl) (Nat.le_of_ble_eq_true rfl) (by rw [hF]) (by rw [hF])
set_option maxHeartbeats 4000000 in
set_option maxRecDepth 100000 in
theorem kX5_resolve (l : Launch) (hl : l.stackTraces = false) (K : zK) (am : Nat → Nat) (I : Nat → Int32) (R : Nat → Nat → Int32) (x1 : Int32) (x2 : Int32) (hs : vp_in x1 4) (hn : vp_in x2 16) (hZ : zwZ R) (hC : zwC R) (hf0 : (I 25) = 0) : zMet l K yX5_resolve wsX5_resolve { frames := 3, cells := 0, slots := 0, locals := 70 } [.ref (am 0), .int x1, .int x2] [zMo K am I R] (some (.int ((fX5_resolve I R x1 x2).1))) [zMo K am ((fX5_resolve I R x1 x2).2.1) ((fX5_resolve I R x1 x2).2.2)] True zNo := by
  refine zMeN.of (cc := cX5_resolve) (maxL := 6) (ret := (some .int)) (own := RX5) (nm := "resolve") hl (by decide +kernel) rfl rfl rfl (Nat.le_of_ble_eq_true rfl) (lv := [(0, .ref (am 0)), (1, .int x1), (2, .int x2)]) rfl ?_
  intro p e s m args below meth c A B
  refine z_iload_n B dX5_resolve_0 2 rfl ?_
  refine z_istore_n B (lv' := [(3, .int x2), (0, .ref (am 0)), (1, .int x1), (2, .int x2)]) dX5_resolve_1 (by decide) rfl ?_
  refine z_iconst B (v := 0) dX5_resolve_2 rfl ?_
  refine z_istore B (lv' := [(4, .int 0), (3, .int x2), (0, .ref (am 0)), (1, .int x1), (2, .int x2)]) dX5_resolve_3 (by decide) rfl ?_
  refine z_lsub [2, 3, 4, 1, 0] rfl ?_
  have hF : fX5_resolve I R x1 x2 = fX5_resolve_L5 I R x1 x2 5 0 x2 I R := rfl
  exact kX5_resolve_L5 l hl K am I R x1 x2 hs hn hZ hC hf0 B 5 0 x2 I R (by omega) hn hZ hC ⟨0, Nat.le_refl _, hf0⟩ hF
/-- what resolving keeps -/
def zRS (I : Nat → Int32) (R : Nat → Nat → Int32) (o : Int32 × (Nat → Int32) × (Nat → Nat → Int32)) : Prop := zwZ o.2.2 ∧ zwC o.2.2 ∧ zwF 5 o.2.1 o.2.2 ∧ (∀ k, (k < 16 ∨ k = 19 ∨ (20 < k ∧ k < 25)) → o.2.1 k = I k) ∧ ∀ k, (k < 6 ∨ 11 < k) → o.2.2 k = R k
theorem zRS.via {I I' : Nat → Int32} {R R' : Nat → Nat → Int32} {o : Int32 × (Nat → Int32) × (Nat → Nat → Int32)} (h : zRS I' R' o) (hI : ∀ k, (k < 16 ∨ k = 19 ∨ (20 < k ∧ k < 25)) → I' k = I k) (hR : ∀ k, (k < 6 ∨ 11 < k) → R' k = R k) : zRS I R o :=
  ⟨h.1, h.2.1, h.2.2.1, fun k hk => (h.2.2.2.1 k hk).trans (hI k hk), fun k hk => (h.2.2.2.2 k hk).trans (hR k hk)⟩
theorem zwF.mono {a b : Nat} {I : Nat → Int32} {R : Nat → Nat → Int32} (h : zwF a I R) (hab : a ≤ b) : zwF b I R := by
  obtain ⟨j, hj, h2⟩ := h
  exact ⟨j, by omega, h2⟩
theorem z_rsL {I : Nat → Int32} {R : Nat → Nat → Int32} {x y : Int32} (hs : vp_in x 4) : ∀ (n a : Nat) (nx : Int32) (I1 : Nat → Int32) (R1 : Nat → Nat → Int32), a + n = 5 → vp_in nx 16 → zwZ R1 → zwC R1 → zwF a I1 R1 → zRS I1 R1 (fX5_resolve_L5 I R x y n a nx I1 R1)
  | 0, a, nx, I1, R1, ha, hn, hZ, hC, hF => ⟨hZ, hC, hF.mono (by omega), fun _ _ => rfl, fun _ _ => rfl⟩
  | n + 1, a, nx, I1, R1, ha, hn, hZ, hC, hF => by
    have g : zRS I1 R1 ((0 : Int32), (fX5_looksUp I1 R1 x nx).2.1, (fX5_looksUp I1 R1 x nx).2.2) := ⟨z_lkZ hZ, z_lkC hs hn hZ hC, (z_lkW hn (by omega) hF).mono (by omega), fun k hk => z_lkI hk, fun k hk => z_lkR hk⟩
    rw [fX5_resolve_L5]
    split
    · exact g
    · split
      · rename_i h1
        exact (z_rsL hs n (a + 1) _ _ _ (by omega) (z_lkN hs hn hZ hC h1) g.1 g.2.1 (z_lkW hn (by omega) hF)).via g.2.2.2.1 g.2.2.2.2
      · split
        · exact g
        · exact g
theorem z_rs {I : Nat → Int32} {R : Nat → Nat → Int32} {x y : Int32} (hs : vp_in x 4) (hn : vp_in y 16) (hZ : zwZ R) (hC : zwC R) (hf0 : I 25 = 0) : zRS I R (fX5_resolve I R x y) := z_rsL hs 5 0 y I R rfl hn hZ hC ⟨0, Nat.le_refl _, hf0, fun k h => absurd h (Nat.not_lt_zero k)⟩
theorem z_wN {a : Nat} {I : Nat → Int32} {R : Nat → Nat → Int32} (h : zwF a I R) (ha : a < 2 ^ 31) : I 25 = nI (I 25).toNatClampNeg ∧ (I 25).toNatClampNeg ≤ a ∧ ∀ k, k < (I 25).toNatClampNeg → vp_in ((R 11) k) 16 := by
  obtain ⟨j, hj, ej, hr⟩ := h
  have e : (nI j).toNatClampNeg = j := nI_clamp (by omega)
  rw [ej, e]
  exact ⟨rfl, hj, hr⟩
theorem z_wR {I : Nat → Int32} {R R1 : Nat → Nat → Int32} {a : Nat} (h : zwF 5 I R) (hR : R1 11 = R 11) (ha : a < (I 25).toNatClampNeg) : vp_in ((R1 11) (nI a).toNatClampNeg) 16 := by
  have h1 := z_wN h (by decide)
  rw [hR, nI_clamp (by omega)]
  exact h1.2.2 a ha

def fX5_fetchHot_L2 (I : Nat → Int32) (R : Nat → Nat → Int32) (x1 : Int32) : Nat → Nat → (Nat → Int32) → (Nat → Nat → Int32) → (Nat → Int32) × (Nat → Nat → Int32)
  | 0, a, I1, R1 =>
    (I1, R1)
  | n + 1, a, I1, R1 =>
    if (I1 4) = 0 then
      fX5_fetchHot_L2 I R x1 n (a + 1) I1 R1
    else
      if ((R1 6) ((16 * x1) + ((R1 11) (nI a).toNatClampNeg)).toNatClampNeg) = 3 then
        fX5_fetchHot_L2 I R x1 n (a + 1) I1 R1
      else
        if ((R1 10) ((16 * x1) + ((R1 11) (nI a).toNatClampNeg)).toNatClampNeg) < 3 then
          fX5_fetchHot_L2 I R x1 n (a + 1) I1 R1
        else
          if ((R1 8) ((16 * x1) + ((R1 11) (nI a).toNatClampNeg)).toNatClampNeg) < (4 * (((R1 9) ((16 * x1) + ((R1 11) (nI a).toNatClampNeg)).toNatClampNeg) - (I1 8))) then
            fX5_fetchHot_L2 I R x1 n (a + 1) I1 R1
          else
            fX5_fetchHot_L2 I R x1 n (a + 1) (va_up ((fX5_fetch I1 R1 x1 ((R1 11) (nI a).toNatClampNeg)).1) 21 ((((fX5_fetch I1 R1 x1 ((R1 11) (nI a).toNatClampNeg)).1) 21) + 1)) ((fX5_fetch I1 R1 x1 ((R1 11) (nI a).toNatClampNeg)).2)
def fX5_fetchHot (I : Nat → Int32) (R : Nat → Nat → Int32) (x1 : Int32) : (Nat → Int32) × (Nat → Nat → Int32) :=
  fX5_fetchHot_L2 I R x1 ((I 25).toNatClampNeg) 0 I R
theorem hiX5_fetchHot_5 : ∀ w ∈ wsX50, w ∈ wsX5_fetchHot := by decide +kernel
theorem hfX5_fetchHot_114 : Cond.fieldLink RX5 114 "ResolverFleetModel" "freshMany" "I" ∈ wsX5_fetchHot := by decide +kernel
theorem hfX5_fetchHot_41 : Cond.fieldLink RX5 41 "ResolverFleetModel" "fresh" "[I" ∈ wsX5_fetchHot := by decide +kernel
theorem hfX5_fetchHot_63 : Cond.fieldLink RX5 63 "ResolverFleetModel" "isUp" "Z" ∈ wsX5_fetchHot := by decide +kernel
theorem hfX5_fetchHot_26 : Cond.fieldLink RX5 26 "ResolverFleetModel" "told" "[I" ∈ wsX5_fetchHot := by decide +kernel
theorem hfX5_fetchHot_38 : Cond.fieldLink RX5 38 "ResolverFleetModel" "hits" "[I" ∈ wsX5_fetchHot := by decide +kernel
theorem hfX5_fetchHot_35 : Cond.fieldLink RX5 35 "ResolverFleetModel" "ends" "[I" ∈ wsX5_fetchHot := by decide +kernel
theorem hfX5_fetchHot_95 : Cond.fieldLink RX5 95 "ResolverFleetModel" "now" "I" ∈ wsX5_fetchHot := by decide +kernel
theorem hfX5_fetchHot_32 : Cond.fieldLink RX5 32 "ResolverFleetModel" "lifeOf" "[I" ∈ wsX5_fetchHot := by decide +kernel
theorem hfX5_fetchHot_127 : Cond.fieldLink RX5 127 "ResolverFleetModel" "anewMany" "I" ∈ wsX5_fetchHot := by decide +kernel
set_option maxHeartbeats 4000000 in
set_option maxRecDepth 100000 in
theorem kX5_fetchHot_L2 (l : Launch) (hl : l.stackTraces = false) (K : zK) (am : Nat → Nat) (I : Nat → Int32) (R : Nat → Nat → Int32) (x1 : Int32) (hs : vp_in x1 4) (hW : zwF 5 I R) {p : Program} {e : Env} {s : State} {m : MethodId} {args : Array Value} {below : List Frame} {meth : Method} {c : Code} {A : Nat → Prop} (B : zF K p l s m args meth c A cX5_fetchHot 4 RX5 "fetchHot" wsX5_fetchHot none []) : ∀ (n a : Nat) (I1 : Nat → Int32) (R1 : Nat → Nat → Int32), a + n = (I 25).toNatClampNeg → ((I1 25) = (I 25)) → ((R1 11) = (R 11)) → fX5_fetchHot I R x1 = fX5_fetchHot_L2 I R x1 n a I1 R1 → zW K p l e { frames := 2, cells := 0, slots := 0, locals := 46 } s m args below meth c A (vx_MQ below (zQ K A (fun _ : Unit => (none, [zMo K am ((fX5_fetchHot I R x1).1) ((fX5_fetchHot I R x1).2)])) (fun _ => True)) (zX K A [zMo K am I R] zNo) args s 0 0 A) 0 0 [zMo K am I1 R1] [(0, .ref (am 0)), (1, .int x1), (2, .int (nI a))] [] 2 := by
  intro n
  induction n with
  | zero =>
    intro a I1 R1 ha hI1 hR1 hF0
    refine z_iload_n B dX5_fetchHot_2 2 rfl ?_
    refine z_aload_n B dX5_fetchHot_3 0 rfl ?_
    refine z_get B (v := .int (I1 25)) 0 0 25 hiX5_fetchHot_5 hfX5_fetchHot_114 rfl rfl rfl (by decide) rfl rfl rfl rfl dX5_fetchHot_4 ?_
    refine z_icge B 98 dX5_fetchHot_7 (by decide) (fun _ => ?_) (fun h => absurd (by rw [hI1, (z_wN hW (by decide)).1]; exact z_lge0 ha z_clt) h)
    have hF : fX5_fetchHot I R x1 = (I1, R1) := hF0
    exact z_ret0 B dX5_fetchHot_98 () (trivial) (Nat.le_of_ble_eq_true rfl) (Nat.le_of_ble_eq_true rfl) rfl (by rw [hF])
  | succ n ih =>
    intro a I1 R1 ha hI1 hR1 hF0
    refine z_iload_n B dX5_fetchHot_2 2 rfl ?_
    refine z_aload_n B dX5_fetchHot_3 0 rfl ?_
    refine z_get B (v := .int (I1 25)) 0 0 25 hiX5_fetchHot_5 hfX5_fetchHot_114 rfl rfl rfl (by decide) rfl rfl rfl rfl dX5_fetchHot_4 ?_
    refine z_icge B 98 dX5_fetchHot_7 (by decide) (fun h => absurd h (by rw [hI1, (z_wN hW (by decide)).1]; exact z_lgeS ha z_clt)) (fun _ => ?_)
    refine z_bipush B (v := 16) dX5_fetchHot_10 rfl ?_
    refine z_iload_n B dX5_fetchHot_12 1 rfl ?_
    refine z_imul B dX5_fetchHot_13 ?_
    refine z_aload_n B dX5_fetchHot_14 0 rfl ?_
    refine z_get B (v := .ref (am 11)) 0 0 24 hiX5_fetchHot_5 hfX5_fetchHot_41 rfl rfl rfl (by decide) rfl rfl rfl rfl dX5_fetchHot_15 ?_
    refine z_iload_n B dX5_fetchHot_18 2 rfl ?_
    refine z_iald B (N := 8) (f := (R1 11)) 0 11 rfl rfl (z_nIr (by have := (z_wN hW (by decide)).2.1; omega) (by decide)) dX5_fetchHot_19 ?_
    refine z_iadd B dX5_fetchHot_20 ?_
    refine z_istore_n B (lv' := [(3, .int ((16 * x1) + ((R1 11) (nI a).toNatClampNeg))), (0, .ref (am 0)), (1, .int x1), (2, .int (nI a))]) dX5_fetchHot_21 (by decide) rfl ?_
    refine z_aload_n B dX5_fetchHot_22 1 rfl ?_
    refine z_get B (v := .int (I1 4)) 0 0 4 hiX5_fetchHot_5 hfX5_fetchHot_63 rfl rfl rfl (by decide) rfl rfl rfl rfl dX5_fetchHot_23 ?_
    refine z_ifeq B 92 dX5_fetchHot_26 (by decide) (fun c1 => ?_) (fun c1 => ?_)
    · refine z_iinc B (v := nI (a + 1)) (lv' := [(2, .int (nI (a + 1))), (3, .int ((16 * x1) + ((R1 11) (nI a).toNatClampNeg))), (0, .ref (am 0)), (1, .int x1)]) dX5_fetchHot_92 3 rfl (nI_1 a) (by decide) rfl ?_
      refine z_goto B (tgt := 2) dX5_fetchHot_95 (by decide) ?_
      refine z_lsub [2, 3, 0] rfl ?_
      have hF : fX5_fetchHot I R x1 = fX5_fetchHot_L2 I R x1 n (a + 1) I1 R1 := (hF0).trans (if_pos c1)
      exact ih (a + 1) I1 R1 (by omega) hI1 hR1 hF
    · refine z_aload_n B dX5_fetchHot_29 1 rfl ?_
      refine z_get B (v := .ref (am 6)) 0 0 10 hiX5_fetchHot_5 hfX5_fetchHot_26 rfl rfl rfl (by decide) rfl rfl rfl rfl dX5_fetchHot_30 ?_
      refine z_iload_n B dX5_fetchHot_33 0 rfl ?_
      refine z_iald B (N := 64) (f := (R1 6)) 0 6 rfl rfl (z_ixn hs (z_wR hW hR1 (by omega))) dX5_fetchHot_34 ?_
      refine z_iconst B (v := 3) dX5_fetchHot_35 rfl ?_
      refine z_iceq B 92 dX5_fetchHot_36 (by decide) (fun c2 => ?_) (fun c2 => ?_)
      · refine z_iinc B (v := nI (a + 1)) (lv' := [(2, .int (nI (a + 1))), (3, .int ((16 * x1) + ((R1 11) (nI a).toNatClampNeg))), (0, .ref (am 0)), (1, .int x1)]) dX5_fetchHot_92 3 rfl (nI_1 a) (by decide) rfl ?_
        refine z_goto B (tgt := 2) dX5_fetchHot_95 (by decide) ?_
        refine z_lsub [2, 3, 0] rfl ?_
        have hF : fX5_fetchHot I R x1 = fX5_fetchHot_L2 I R x1 n (a + 1) I1 R1 := (hF0).trans ((if_neg c1).trans (if_pos c2))
        exact ih (a + 1) I1 R1 (by omega) hI1 hR1 hF
      · refine z_aload_n B dX5_fetchHot_39 1 rfl ?_
        refine z_get B (v := .ref (am 10)) 0 0 14 hiX5_fetchHot_5 hfX5_fetchHot_38 rfl rfl rfl (by decide) rfl rfl rfl rfl dX5_fetchHot_40 ?_
        refine z_iload_n B dX5_fetchHot_43 0 rfl ?_
        refine z_iald B (N := 64) (f := (R1 10)) 0 10 rfl rfl (z_ixn hs (z_wR hW hR1 (by omega))) dX5_fetchHot_44 ?_
        refine z_iconst B (v := 3) dX5_fetchHot_45 rfl ?_
        refine z_iclt B 92 dX5_fetchHot_46 (by decide) (fun c3 => ?_) (fun c3 => ?_)
        · refine z_iinc B (v := nI (a + 1)) (lv' := [(2, .int (nI (a + 1))), (3, .int ((16 * x1) + ((R1 11) (nI a).toNatClampNeg))), (0, .ref (am 0)), (1, .int x1)]) dX5_fetchHot_92 3 rfl (nI_1 a) (by decide) rfl ?_
          refine z_goto B (tgt := 2) dX5_fetchHot_95 (by decide) ?_
          refine z_lsub [2, 3, 0] rfl ?_
          have hF : fX5_fetchHot I R x1 = fX5_fetchHot_L2 I R x1 n (a + 1) I1 R1 := (hF0).trans ((if_neg c1).trans ((if_neg c2).trans (if_pos c3)))
          exact ih (a + 1) I1 R1 (by omega) hI1 hR1 hF
        · refine z_iconst B (v := 4) dX5_fetchHot_49 rfl ?_
          refine z_aload_n B dX5_fetchHot_50 1 rfl ?_
          refine z_get B (v := .ref (am 9)) 0 0 13 hiX5_fetchHot_5 hfX5_fetchHot_35 rfl rfl rfl (by decide) rfl rfl rfl rfl dX5_fetchHot_51 ?_
          refine z_iload_n B dX5_fetchHot_54 0 rfl ?_
          refine z_iald B (N := 64) (f := (R1 9)) 0 9 rfl rfl (z_ixn hs (z_wR hW hR1 (by omega))) dX5_fetchHot_55 ?_
          refine z_aload_n B dX5_fetchHot_56 1 rfl ?_
          refine z_get B (v := .int (I1 8)) 0 0 8 hiX5_fetchHot_5 hfX5_fetchHot_95 rfl rfl rfl (by decide) rfl rfl rfl rfl dX5_fetchHot_57 ?_
          refine z_isub B dX5_fetchHot_60 ?_
          refine z_imul B dX5_fetchHot_61 ?_
          refine z_aload_n B dX5_fetchHot_62 1 rfl ?_
          refine z_get B (v := .ref (am 8)) 0 0 12 hiX5_fetchHot_5 hfX5_fetchHot_32 rfl rfl rfl (by decide) rfl rfl rfl rfl dX5_fetchHot_63 ?_
          refine z_iload_n B dX5_fetchHot_66 0 rfl ?_
          refine z_iald B (N := 64) (f := (R1 8)) 0 8 rfl rfl (z_ixn hs (z_wR hW hR1 (by omega))) dX5_fetchHot_67 ?_
          refine z_icgt B 92 dX5_fetchHot_68 (by decide) (fun c4 => ?_) (fun c4 => ?_)
          · refine z_iinc B (v := nI (a + 1)) (lv' := [(2, .int (nI (a + 1))), (3, .int ((16 * x1) + ((R1 11) (nI a).toNatClampNeg))), (0, .ref (am 0)), (1, .int x1)]) dX5_fetchHot_92 3 rfl (nI_1 a) (by decide) rfl ?_
            refine z_goto B (tgt := 2) dX5_fetchHot_95 (by decide) ?_
            refine z_lsub [2, 3, 0] rfl ?_
            have hF : fX5_fetchHot I R x1 = fX5_fetchHot_L2 I R x1 n (a + 1) I1 R1 := (hF0).trans ((if_neg c1).trans ((if_neg c2).trans ((if_neg c3).trans (if_pos c4))))
            exact ih (a + 1) I1 R1 (by omega) hI1 hR1 hF
          · refine z_aload_n B dX5_fetchHot_71 1 rfl ?_
            refine z_iload_n B dX5_fetchHot_72 2 rfl ?_
            refine z_aload_n B dX5_fetchHot_73 1 rfl ?_
            refine z_get B (v := .ref (am 11)) 0 0 24 hiX5_fetchHot_5 hfX5_fetchHot_41 rfl rfl rfl (by decide) rfl rfl rfl rfl dX5_fetchHot_74 ?_
            refine z_iload_n B dX5_fetchHot_77 3 rfl ?_
            refine z_iald B (N := 8) (f := (R1 11)) 0 11 rfl rfl (z_nIr (by have := (z_wN hW (by decide)).2.1; omega) (by decide)) dX5_fetchHot_78 ?_
            refine z_V0 B (kX5_fetch l hl K am I1 R1 x1 ((R1 11) (nI a).toNatClampNeg) hs (z_wR hW hR1 (by omega))) [0] [] (br := []) (bs' := [zMo K am ((fX5_fetch I1 R1 x1 ((R1 11) (nI a).toNatClampNeg)).1) ((fX5_fetch I1 R1 x1 ((R1 11) (nI a).toNatClampNeg)).2)]) (st := []) (nA := 2) (zsp rfl rfl rfl) (zsp rfl rfl rfl) 0 0 rfl rfl rfl rfl gX5_fetchHot_X5_fetch rfl (by decide +kernel) ⟨Nat.le_of_ble_eq_true rfl, Nat.le_of_ble_eq_true rfl⟩ rfl rfl (Nat.le_of_ble_eq_true rfl) ⟨Nat.le_of_ble_eq_true rfl, Nat.le_of_ble_eq_true rfl⟩ dX5_fetchHot_79 z_noX (fun _ => ?_)
            refine z_aload_n B dX5_fetchHot_82 1 rfl ?_
            refine z_dup B dX5_fetchHot_83 rfl ?_
            refine z_get B (v := .int (((fX5_fetch I1 R1 x1 ((R1 11) (nI a).toNatClampNeg)).1) 21)) 0 0 21 hiX5_fetchHot_5 hfX5_fetchHot_127 rfl rfl rfl (by decide) rfl rfl rfl rfl dX5_fetchHot_84 ?_
            refine z_iconst B (v := 1) dX5_fetchHot_87 rfl ?_
            refine z_iadd B dX5_fetchHot_88 ?_
            refine z_put B 0 0 21 hiX5_fetchHot_5 hfX5_fetchHot_127 tyX5_ok nmX5 rfl rfl rfl (by decide) rfl rfl rfl rfl rfl rfl rfl (Nat.le_of_ble_eq_true rfl) (bs' := [zMo K am (va_up ((fX5_fetch I1 R1 x1 ((R1 11) (nI a).toNatClampNeg)).1) 21 ((((fX5_fetch I1 R1 x1 ((R1 11) (nI a).toNatClampNeg)).1) 21) + 1)) ((fX5_fetch I1 R1 x1 ((R1 11) (nI a).toNatClampNeg)).2)]) zMoI21 dX5_fetchHot_89 ?_
            refine z_iinc B (v := nI (a + 1)) (lv' := [(2, .int (nI (a + 1))), (3, .int ((16 * x1) + ((R1 11) (nI a).toNatClampNeg))), (0, .ref (am 0)), (1, .int x1)]) dX5_fetchHot_92 3 rfl (nI_1 a) (by decide) rfl ?_
            refine z_goto B (tgt := 2) dX5_fetchHot_95 (by decide) ?_
            refine z_lsub [2, 3, 0] rfl ?_
            have hF : fX5_fetchHot I R x1 = fX5_fetchHot_L2 I R x1 n (a + 1) (va_up ((fX5_fetch I1 R1 x1 ((R1 11) (nI a).toNatClampNeg)).1) 21 ((((fX5_fetch I1 R1 x1 ((R1 11) (nI a).toNatClampNeg)).1) 21) + 1)) ((fX5_fetch I1 R1 x1 ((R1 11) (nI a).toNatClampNeg)).2) := (hF0).trans ((if_neg c1).trans ((if_neg c2).trans ((if_neg c3).trans (if_neg c4))))
            exact ih (a + 1) (va_up ((fX5_fetch I1 R1 x1 ((R1 11) (nI a).toNatClampNeg)).1) 21 ((((fX5_fetch I1 R1 x1 ((R1 11) (nI a).toNatClampNeg)).1) 21) + 1)) ((fX5_fetch I1 R1 x1 ((R1 11) (nI a).toNatClampNeg)).2) (by omega) ((z_fI (by decide)).trans hI1) ((z_fR (by omega)).trans hR1) hF
set_option maxHeartbeats 4000000 in
set_option maxRecDepth 100000 in
theorem kX5_fetchHot (l : Launch) (hl : l.stackTraces = false) (K : zK) (am : Nat → Nat) (I : Nat → Int32) (R : Nat → Nat → Int32) (x1 : Int32) (hs : vp_in x1 4) (hW : zwF 5 I R) : zMet l K yX5_fetchHot wsX5_fetchHot { frames := 2, cells := 0, slots := 0, locals := 46 } [.ref (am 0), .int x1] [zMo K am I R] none [zMo K am ((fX5_fetchHot I R x1).1) ((fX5_fetchHot I R x1).2)] True zNo := by
  refine zMeN.of (cc := cX5_fetchHot) (maxL := 4) (ret := none) (own := RX5) (nm := "fetchHot") hl (by decide +kernel) rfl rfl rfl (Nat.le_of_ble_eq_true rfl) (lv := [(0, .ref (am 0)), (1, .int x1)]) rfl ?_
  intro p e s m args below meth c A B
  refine z_iconst B (v := 0) dX5_fetchHot_0 rfl ?_
  refine z_istore_n B (lv' := [(2, .int 0), (0, .ref (am 0)), (1, .int x1)]) dX5_fetchHot_1 (by decide) rfl ?_
  refine z_lsub [1, 2, 0] rfl ?_
  have hF : fX5_fetchHot I R x1 = fX5_fetchHot_L2 I R x1 ((I 25).toNatClampNeg) 0 I R := rfl
  exact kX5_fetchHot_L2 l hl K am I R x1 hs hW B ((I 25).toNatClampNeg) 0 I R (by omega) rfl rfl hF
theorem z_nrL {I I' : Nat → Int32} {R : Nat → Nat → Int32} {x : Int32} : ∀ (n a : Nat) (g ls : Int32), fX5_nearest_L9 I R x n a g ls = fX5_nearest_L9 I' R x n a g ls
  | 0, a, g, ls => rfl
  | n + 1, a, g, ls => by
    rw [fX5_nearest_L9, fX5_nearest_L9]
    repeat' split
    all_goals exact z_nrL n (a + 1) _ _
theorem z_nrI {I I' : Nat → Int32} {R : Nat → Nat → Int32} {x : Int32} (h : I' 5 = I 5) : fX5_nearest I' R x = fX5_nearest I R x := by
  unfold fX5_nearest
  rw [h]
  exact z_nrL _ _ _ _
theorem z_nr4L {I : Nat → Int32} {R : Nat → Nat → Int32} {x : Int32} : ∀ (n a : Nat) (g ls : Int32), a + n ≤ 4 → (g = (-3) ∨ vp_in g 4) → (fX5_nearest_L9 I R x n a g ls = (-3) ∨ vp_in (fX5_nearest_L9 I R x n a g ls) 4)
  | 0, a, g, ls, ha, hg => hg
  | n + 1, a, g, ls, ha, hg => by
    have g2 : (nI a = (-3) ∨ vp_in (nI a) 4) := Or.inr (vp_in_nI (by omega) (by decide))
    rw [fX5_nearest_L9]
    repeat' split
    all_goals first | exact z_nr4L n (a + 1) _ _ (by omega) hg | exact z_nr4L n (a + 1) _ _ (by omega) g2
theorem z_nr4 {I : Nat → Int32} {R : Nat → Nat → Int32} {x : Int32} (h6 : (I 5).toNatClampNeg ≤ 4) (h : ¬ fX5_nearest I R x = (-3)) : vp_in (fX5_nearest I R x) 4 := (z_nr4L (I 5).toNatClampNeg 0 (-3) 100 (by omega) (Or.inl rfl)).resolve_left h

def fX5_canAsk (I : Nat → Int32) (R : Nat → Nat → Int32) (x1 : Int32) (x2 : Int32) : Int32 × (Nat → Int32) :=
  if (fX5_isName x2) = 0 then
    (0, (va_up I 9 1))
  else
    if (fX5_in x1 0 99) = 0 then
      (0, (va_up I 9 2))
    else
      if (fX5_nearest I R x1) = (-3) then
        (0, (va_up I 9 3))
      else
        (1, (va_up I 9 0))
theorem hiX5_canAsk_5 : ∀ w ∈ wsX50, w ∈ wsX5_canAsk := by decide +kernel
theorem hfX5_canAsk_70 : Cond.fieldLink RX5 70 "ResolverFleetModel" "thrown" "I" ∈ wsX5_canAsk := by decide +kernel
set_option maxHeartbeats 4000000 in
set_option maxRecDepth 100000 in
theorem kX5_canAsk (l : Launch) (hl : l.stackTraces = false) (K : zK) (am : Nat → Nat) (I : Nat → Int32) (R : Nat → Nat → Int32) (x1 : Int32) (x2 : Int32) (h5 : ¬ (I 5) < 0) (h6 : (I 5).toNatClampNeg ≤ 4) : zMet l K yX5_canAsk wsX5_canAsk { frames := 2, cells := 0, slots := 0, locals := 42 } [.ref (am 0), .int x1, .int x2] [zMo K am I R] (some (.int ((fX5_canAsk I R x1 x2).1))) [zMo K am ((fX5_canAsk I R x1 x2).2) R] True zNo := by
  refine zMeN.of (cc := cX5_canAsk) (maxL := 3) (ret := (some .boolean)) (own := RX5) (nm := "canAsk") hl (by decide +kernel) rfl rfl rfl (Nat.le_of_ble_eq_true rfl) (lv := [(0, .ref (am 0)), (1, .int x1), (2, .int x2)]) rfl ?_
  intro p e s m args below meth c A B
  refine z_aload_n B dX5_canAsk_0 0 rfl ?_
  refine z_iload_n B dX5_canAsk_1 2 rfl ?_
  refine z_S1 B (kX5_isName l hl K x2) [] [0] (br := [zMo K am I R]) (bs' := [zMo K am I R]) (st := [.ref (am 0)]) (nA := 1) (zsp rfl rfl rfl) (zsp rfl rfl rfl) gX5_canAsk_X5_isName rfl (by decide +kernel) ⟨Nat.le_of_ble_eq_true rfl, Nat.le_of_ble_eq_true rfl⟩ rfl rfl (Nat.le_of_ble_eq_true rfl) ⟨Nat.le_of_ble_eq_true rfl, Nat.le_of_ble_eq_true rfl⟩ dX5_canAsk_2 z_noX (fun _ => ?_)
  refine z_ifne B 12 dX5_canAsk_5 (by decide) (fun c1 => ?_) (fun c1 => ?_)
  · refine z_iconst B (v := 1) dX5_canAsk_8 rfl ?_
    refine z_goto B (tgt := 41) dX5_canAsk_9 (by decide) ?_
    refine z_put B 0 0 9 hiX5_canAsk_5 hfX5_canAsk_70 tyX5_ok nmX5 rfl rfl rfl (by decide) rfl rfl rfl rfl rfl rfl rfl (Nat.le_of_ble_eq_true rfl) (bs' := [zMo K am (va_up I 9 1) R]) zMoI9 dX5_canAsk_41 ?_
    refine z_aload_n B dX5_canAsk_44 0 rfl ?_
    refine z_get B (v := .int 1) 0 0 9 hiX5_canAsk_5 hfX5_canAsk_70 rfl rfl rfl (by decide) rfl rfl rfl rfl dX5_canAsk_45 ?_
    refine z_ifne B 55 dX5_canAsk_48 (by decide) (fun h => absurd h (by decide)) (fun _ => ?_)
    refine z_iconst B (v := 0) dX5_canAsk_55 rfl ?_
    have hF : fX5_canAsk I R x1 x2 = (0, (va_up I 9 1)) := if_pos c1
    exact z_ret1 B rfl dX5_canAsk_56 () (trivial) (Nat.le_of_ble_eq_true rfl) (Nat.le_of_ble_eq_true rfl) (by rw [hF]) (by rw [hF])
  · refine z_iload_n B dX5_canAsk_12 1 rfl ?_
    refine z_iconst B (v := 0) dX5_canAsk_13 rfl ?_
    refine z_bipush B (v := 99) dX5_canAsk_14 rfl ?_
    refine z_S1 B (kX5_in l hl K x1 0 99) [] [0] (br := [zMo K am I R]) (bs' := [zMo K am I R]) (st := [.ref (am 0)]) (nA := 3) (zsp rfl rfl rfl) (zsp rfl rfl rfl) gX5_canAsk_X5_in rfl (by decide +kernel) ⟨Nat.le_of_ble_eq_true rfl, Nat.le_of_ble_eq_true rfl⟩ rfl rfl (Nat.le_of_ble_eq_true rfl) ⟨Nat.le_of_ble_eq_true rfl, Nat.le_of_ble_eq_true rfl⟩ dX5_canAsk_16 z_noX (fun _ => ?_)
    refine z_ifne B 26 dX5_canAsk_19 (by decide) (fun c2 => ?_) (fun c2 => ?_)
    · refine z_iconst B (v := 2) dX5_canAsk_22 rfl ?_
      refine z_goto B (tgt := 41) dX5_canAsk_23 (by decide) ?_
      refine z_put B 0 0 9 hiX5_canAsk_5 hfX5_canAsk_70 tyX5_ok nmX5 rfl rfl rfl (by decide) rfl rfl rfl rfl rfl rfl rfl (Nat.le_of_ble_eq_true rfl) (bs' := [zMo K am (va_up I 9 2) R]) zMoI9 dX5_canAsk_41 ?_
      refine z_aload_n B dX5_canAsk_44 0 rfl ?_
      refine z_get B (v := .int 2) 0 0 9 hiX5_canAsk_5 hfX5_canAsk_70 rfl rfl rfl (by decide) rfl rfl rfl rfl dX5_canAsk_45 ?_
      refine z_ifne B 55 dX5_canAsk_48 (by decide) (fun h => absurd h (by decide)) (fun _ => ?_)
      refine z_iconst B (v := 0) dX5_canAsk_55 rfl ?_
      have hF : fX5_canAsk I R x1 x2 = (0, (va_up I 9 2)) := (if_neg c1).trans (if_pos c2)
      exact z_ret1 B rfl dX5_canAsk_56 () (trivial) (Nat.le_of_ble_eq_true rfl) (Nat.le_of_ble_eq_true rfl) (by rw [hF]) (by rw [hF])
    · refine z_aload_n B dX5_canAsk_26 0 rfl ?_
      refine z_iload_n B dX5_canAsk_27 1 rfl ?_
      refine z_V1 B (kX5_nearest l hl K am I R x1 h5 h6) [0] [] (br := []) (bs' := [zMo K am I R]) (st := [.ref (am 0)]) (nA := 1) (zsp rfl rfl rfl) (zsp rfl rfl rfl) 0 0 rfl rfl rfl rfl gX5_canAsk_X5_nearest rfl (by decide +kernel) ⟨Nat.le_of_ble_eq_true rfl, Nat.le_of_ble_eq_true rfl⟩ rfl rfl (Nat.le_of_ble_eq_true rfl) ⟨Nat.le_of_ble_eq_true rfl, Nat.le_of_ble_eq_true rfl⟩ dX5_canAsk_28 z_noX (fun _ => ?_)
      refine z_bipush B (v := (-3)) dX5_canAsk_31 rfl ?_
      refine z_icne B 40 dX5_canAsk_33 (by decide) (fun c3 => ?_) (fun c3 => ?_)
      · refine z_iconst B (v := 3) dX5_canAsk_36 rfl ?_
        refine z_goto B (tgt := 41) dX5_canAsk_37 (by decide) ?_
        refine z_put B 0 0 9 hiX5_canAsk_5 hfX5_canAsk_70 tyX5_ok nmX5 rfl rfl rfl (by decide) rfl rfl rfl rfl rfl rfl rfl (Nat.le_of_ble_eq_true rfl) (bs' := [zMo K am (va_up I 9 3) R]) zMoI9 dX5_canAsk_41 ?_
        refine z_aload_n B dX5_canAsk_44 0 rfl ?_
        refine z_get B (v := .int 3) 0 0 9 hiX5_canAsk_5 hfX5_canAsk_70 rfl rfl rfl (by decide) rfl rfl rfl rfl dX5_canAsk_45 ?_
        refine z_ifne B 55 dX5_canAsk_48 (by decide) (fun h => absurd h (by decide)) (fun _ => ?_)
        refine z_iconst B (v := 0) dX5_canAsk_55 rfl ?_
        have hF : fX5_canAsk I R x1 x2 = (0, (va_up I 9 3)) := (if_neg c1).trans ((if_neg c2).trans (if_pos c3))
        exact z_ret1 B rfl dX5_canAsk_56 () (trivial) (Nat.le_of_ble_eq_true rfl) (Nat.le_of_ble_eq_true rfl) (by rw [hF]) (by rw [hF])
      · refine z_iconst B (v := 0) dX5_canAsk_40 rfl ?_
        refine z_put B 0 0 9 hiX5_canAsk_5 hfX5_canAsk_70 tyX5_ok nmX5 rfl rfl rfl (by decide) rfl rfl rfl rfl rfl rfl rfl (Nat.le_of_ble_eq_true rfl) (bs' := [zMo K am (va_up I 9 0) R]) zMoI9 dX5_canAsk_41 ?_
        refine z_aload_n B dX5_canAsk_44 0 rfl ?_
        refine z_get B (v := .int 0) 0 0 9 hiX5_canAsk_5 hfX5_canAsk_70 rfl rfl rfl (by decide) rfl rfl rfl rfl dX5_canAsk_45 ?_
        refine z_ifne B 55 dX5_canAsk_48 (by decide) (fun _ => ?_) (fun h => absurd (by decide) h)
        refine z_iconst B (v := 1) dX5_canAsk_51 rfl ?_
        refine z_goto B (tgt := 56) dX5_canAsk_52 (by decide) ?_
        have hF : fX5_canAsk I R x1 x2 = (1, (va_up I 9 0)) := (if_neg c1).trans ((if_neg c2).trans (if_neg c3))
        exact z_ret1 B rfl dX5_canAsk_56 () (trivial) (Nat.le_of_ble_eq_true rfl) (Nat.le_of_ble_eq_true rfl) (by rw [hF]) (by rw [hF])
theorem z_caI {I : Nat → Int32} {R : Nat → Nat → Int32} {x y : Int32} {k : Nat} (h : k ≠ 9) : (fX5_canAsk I R x y).2 k = I k := by
  unfold fX5_canAsk
  repeat' split
  all_goals simp [va_up, h]
theorem z_caS {I : Nat → Int32} {R : Nat → Nat → Int32} {x y : Int32} (h5 : ¬ (I 5) < 0) (h6 : (I 5).toNatClampNeg ≤ 4) (hA : ¬ (fX5_canAsk I R x y).1 = 0) : vp_in (fX5_nearest (fX5_canAsk I R x y).2 R x) 4 ∧ vp_in y 16 := by
  rw [z_nrI (z_caI (by decide))]
  unfold fX5_canAsk at hA
  split at hA
  · exact absurd rfl hA
  · rename_i h1
    split at hA
    · exact absurd rfl hA
    · split at hA
      · exact absurd rfl hA
      · rename_i h3
        exact ⟨z_nr4 h6 h3, z_isName h1⟩
def fX5_query (I : Nat → Int32) (R : Nat → Nat → Int32) (x1 : Int32) (x2 : Int32) : Int32 × (Nat → Int32) × (Nat → Nat → Int32) :=
  if ((fX5_canAsk I R x1 x2).1) = 0 then
    (0, ((fX5_canAsk I R x1 x2).2), R)
  else
    if (((fX5_fetchHot ((fX5_resolve (va_up (va_up (va_up (va_up (va_up ((fX5_canAsk I R x1 x2).2) 15 (fX5_nearest ((fX5_canAsk I R x1 x2).2) R x1)) 16 0) 17 0) 18 0) 25 0) R (fX5_nearest ((fX5_canAsk I R x1 x2).2) R x1) x2).2.1) ((fX5_resolve (va_up (va_up (va_up (va_up (va_up ((fX5_canAsk I R x1 x2).2) 15 (fX5_nearest ((fX5_canAsk I R x1 x2).2) R x1)) 16 0) 17 0) 18 0) 25 0) R (fX5_nearest ((fX5_canAsk I R x1 x2).2) R x1) x2).2.2) (fX5_nearest ((fX5_canAsk I R x1 x2).2) R x1)).1) 16) = 0 then
      if ((fX5_resolve (va_up (va_up (va_up (va_up (va_up ((fX5_canAsk I R x1 x2).2) 15 (fX5_nearest ((fX5_canAsk I R x1 x2).2) R x1)) 16 0) 17 0) 18 0) 25 0) R (fX5_nearest ((fX5_canAsk I R x1 x2).2) R x1) x2).1) = (-2) then
        (((fX5_resolve (va_up (va_up (va_up (va_up (va_up ((fX5_canAsk I R x1 x2).2) 15 (fX5_nearest ((fX5_canAsk I R x1 x2).2) R x1)) 16 0) 17 0) 18 0) 25 0) R (fX5_nearest ((fX5_canAsk I R x1 x2).2) R x1) x2).1), (va_up (va_up (va_up ((fX5_fetchHot ((fX5_resolve (va_up (va_up (va_up (va_up (va_up ((fX5_canAsk I R x1 x2).2) 15 (fX5_nearest ((fX5_canAsk I R x1 x2).2) R x1)) 16 0) 17 0) 18 0) 25 0) R (fX5_nearest ((fX5_canAsk I R x1 x2).2) R x1) x2).2.1) ((fX5_resolve (va_up (va_up (va_up (va_up (va_up ((fX5_canAsk I R x1 x2).2) 15 (fX5_nearest ((fX5_canAsk I R x1 x2).2) R x1)) 16 0) 17 0) 18 0) 25 0) R (fX5_nearest ((fX5_canAsk I R x1 x2).2) R x1) x2).2.2) (fX5_nearest ((fX5_canAsk I R x1 x2).2) R x1)).1) 19 ((((fX5_fetchHot ((fX5_resolve (va_up (va_up (va_up (va_up (va_up ((fX5_canAsk I R x1 x2).2) 15 (fX5_nearest ((fX5_canAsk I R x1 x2).2) R x1)) 16 0) 17 0) 18 0) 25 0) R (fX5_nearest ((fX5_canAsk I R x1 x2).2) R x1) x2).2.1) ((fX5_resolve (va_up (va_up (va_up (va_up (va_up ((fX5_canAsk I R x1 x2).2) 15 (fX5_nearest ((fX5_canAsk I R x1 x2).2) R x1)) 16 0) 17 0) 18 0) 25 0) R (fX5_nearest ((fX5_canAsk I R x1 x2).2) R x1) x2).2.2) (fX5_nearest ((fX5_canAsk I R x1 x2).2) R x1)).1) 19) + 1)) 22 ((((fX5_fetchHot ((fX5_resolve (va_up (va_up (va_up (va_up (va_up ((fX5_canAsk I R x1 x2).2) 15 (fX5_nearest ((fX5_canAsk I R x1 x2).2) R x1)) 16 0) 17 0) 18 0) 25 0) R (fX5_nearest ((fX5_canAsk I R x1 x2).2) R x1) x2).2.1) ((fX5_resolve (va_up (va_up (va_up (va_up (va_up ((fX5_canAsk I R x1 x2).2) 15 (fX5_nearest ((fX5_canAsk I R x1 x2).2) R x1)) 16 0) 17 0) 18 0) 25 0) R (fX5_nearest ((fX5_canAsk I R x1 x2).2) R x1) x2).2.2) (fX5_nearest ((fX5_canAsk I R x1 x2).2) R x1)).1) 22) + 0)) 23 ((((fX5_fetchHot ((fX5_resolve (va_up (va_up (va_up (va_up (va_up ((fX5_canAsk I R x1 x2).2) 15 (fX5_nearest ((fX5_canAsk I R x1 x2).2) R x1)) 16 0) 17 0) 18 0) 25 0) R (fX5_nearest ((fX5_canAsk I R x1 x2).2) R x1) x2).2.1) ((fX5_resolve (va_up (va_up (va_up (va_up (va_up ((fX5_canAsk I R x1 x2).2) 15 (fX5_nearest ((fX5_canAsk I R x1 x2).2) R x1)) 16 0) 17 0) 18 0) 25 0) R (fX5_nearest ((fX5_canAsk I R x1 x2).2) R x1) x2).2.2) (fX5_nearest ((fX5_canAsk I R x1 x2).2) R x1)).1) 23) + 1)), ((fX5_fetchHot ((fX5_resolve (va_up (va_up (va_up (va_up (va_up ((fX5_canAsk I R x1 x2).2) 15 (fX5_nearest ((fX5_canAsk I R x1 x2).2) R x1)) 16 0) 17 0) 18 0) 25 0) R (fX5_nearest ((fX5_canAsk I R x1 x2).2) R x1) x2).2.1) ((fX5_resolve (va_up (va_up (va_up (va_up (va_up ((fX5_canAsk I R x1 x2).2) 15 (fX5_nearest ((fX5_canAsk I R x1 x2).2) R x1)) 16 0) 17 0) 18 0) 25 0) R (fX5_nearest ((fX5_canAsk I R x1 x2).2) R x1) x2).2.2) (fX5_nearest ((fX5_canAsk I R x1 x2).2) R x1)).2))
      else
        (((fX5_resolve (va_up (va_up (va_up (va_up (va_up ((fX5_canAsk I R x1 x2).2) 15 (fX5_nearest ((fX5_canAsk I R x1 x2).2) R x1)) 16 0) 17 0) 18 0) 25 0) R (fX5_nearest ((fX5_canAsk I R x1 x2).2) R x1) x2).1), (va_up (va_up (va_up ((fX5_fetchHot ((fX5_resolve (va_up (va_up (va_up (va_up (va_up ((fX5_canAsk I R x1 x2).2) 15 (fX5_nearest ((fX5_canAsk I R x1 x2).2) R x1)) 16 0) 17 0) 18 0) 25 0) R (fX5_nearest ((fX5_canAsk I R x1 x2).2) R x1) x2).2.1) ((fX5_resolve (va_up (va_up (va_up (va_up (va_up ((fX5_canAsk I R x1 x2).2) 15 (fX5_nearest ((fX5_canAsk I R x1 x2).2) R x1)) 16 0) 17 0) 18 0) 25 0) R (fX5_nearest ((fX5_canAsk I R x1 x2).2) R x1) x2).2.2) (fX5_nearest ((fX5_canAsk I R x1 x2).2) R x1)).1) 19 ((((fX5_fetchHot ((fX5_resolve (va_up (va_up (va_up (va_up (va_up ((fX5_canAsk I R x1 x2).2) 15 (fX5_nearest ((fX5_canAsk I R x1 x2).2) R x1)) 16 0) 17 0) 18 0) 25 0) R (fX5_nearest ((fX5_canAsk I R x1 x2).2) R x1) x2).2.1) ((fX5_resolve (va_up (va_up (va_up (va_up (va_up ((fX5_canAsk I R x1 x2).2) 15 (fX5_nearest ((fX5_canAsk I R x1 x2).2) R x1)) 16 0) 17 0) 18 0) 25 0) R (fX5_nearest ((fX5_canAsk I R x1 x2).2) R x1) x2).2.2) (fX5_nearest ((fX5_canAsk I R x1 x2).2) R x1)).1) 19) + 1)) 22 ((((fX5_fetchHot ((fX5_resolve (va_up (va_up (va_up (va_up (va_up ((fX5_canAsk I R x1 x2).2) 15 (fX5_nearest ((fX5_canAsk I R x1 x2).2) R x1)) 16 0) 17 0) 18 0) 25 0) R (fX5_nearest ((fX5_canAsk I R x1 x2).2) R x1) x2).2.1) ((fX5_resolve (va_up (va_up (va_up (va_up (va_up ((fX5_canAsk I R x1 x2).2) 15 (fX5_nearest ((fX5_canAsk I R x1 x2).2) R x1)) 16 0) 17 0) 18 0) 25 0) R (fX5_nearest ((fX5_canAsk I R x1 x2).2) R x1) x2).2.2) (fX5_nearest ((fX5_canAsk I R x1 x2).2) R x1)).1) 22) + 0)) 23 ((((fX5_fetchHot ((fX5_resolve (va_up (va_up (va_up (va_up (va_up ((fX5_canAsk I R x1 x2).2) 15 (fX5_nearest ((fX5_canAsk I R x1 x2).2) R x1)) 16 0) 17 0) 18 0) 25 0) R (fX5_nearest ((fX5_canAsk I R x1 x2).2) R x1) x2).2.1) ((fX5_resolve (va_up (va_up (va_up (va_up (va_up ((fX5_canAsk I R x1 x2).2) 15 (fX5_nearest ((fX5_canAsk I R x1 x2).2) R x1)) 16 0) 17 0) 18 0) 25 0) R (fX5_nearest ((fX5_canAsk I R x1 x2).2) R x1) x2).2.2) (fX5_nearest ((fX5_canAsk I R x1 x2).2) R x1)).1) 23) + 0)), ((fX5_fetchHot ((fX5_resolve (va_up (va_up (va_up (va_up (va_up ((fX5_canAsk I R x1 x2).2) 15 (fX5_nearest ((fX5_canAsk I R x1 x2).2) R x1)) 16 0) 17 0) 18 0) 25 0) R (fX5_nearest ((fX5_canAsk I R x1 x2).2) R x1) x2).2.1) ((fX5_resolve (va_up (va_up (va_up (va_up (va_up ((fX5_canAsk I R x1 x2).2) 15 (fX5_nearest ((fX5_canAsk I R x1 x2).2) R x1)) 16 0) 17 0) 18 0) 25 0) R (fX5_nearest ((fX5_canAsk I R x1 x2).2) R x1) x2).2.2) (fX5_nearest ((fX5_canAsk I R x1 x2).2) R x1)).2))
    else
      if ((fX5_resolve (va_up (va_up (va_up (va_up (va_up ((fX5_canAsk I R x1 x2).2) 15 (fX5_nearest ((fX5_canAsk I R x1 x2).2) R x1)) 16 0) 17 0) 18 0) 25 0) R (fX5_nearest ((fX5_canAsk I R x1 x2).2) R x1) x2).1) = (-2) then
        (((fX5_resolve (va_up (va_up (va_up (va_up (va_up ((fX5_canAsk I R x1 x2).2) 15 (fX5_nearest ((fX5_canAsk I R x1 x2).2) R x1)) 16 0) 17 0) 18 0) 25 0) R (fX5_nearest ((fX5_canAsk I R x1 x2).2) R x1) x2).1), (va_up (va_up (va_up ((fX5_fetchHot ((fX5_resolve (va_up (va_up (va_up (va_up (va_up ((fX5_canAsk I R x1 x2).2) 15 (fX5_nearest ((fX5_canAsk I R x1 x2).2) R x1)) 16 0) 17 0) 18 0) 25 0) R (fX5_nearest ((fX5_canAsk I R x1 x2).2) R x1) x2).2.1) ((fX5_resolve (va_up (va_up (va_up (va_up (va_up ((fX5_canAsk I R x1 x2).2) 15 (fX5_nearest ((fX5_canAsk I R x1 x2).2) R x1)) 16 0) 17 0) 18 0) 25 0) R (fX5_nearest ((fX5_canAsk I R x1 x2).2) R x1) x2).2.2) (fX5_nearest ((fX5_canAsk I R x1 x2).2) R x1)).1) 19 ((((fX5_fetchHot ((fX5_resolve (va_up (va_up (va_up (va_up (va_up ((fX5_canAsk I R x1 x2).2) 15 (fX5_nearest ((fX5_canAsk I R x1 x2).2) R x1)) 16 0) 17 0) 18 0) 25 0) R (fX5_nearest ((fX5_canAsk I R x1 x2).2) R x1) x2).2.1) ((fX5_resolve (va_up (va_up (va_up (va_up (va_up ((fX5_canAsk I R x1 x2).2) 15 (fX5_nearest ((fX5_canAsk I R x1 x2).2) R x1)) 16 0) 17 0) 18 0) 25 0) R (fX5_nearest ((fX5_canAsk I R x1 x2).2) R x1) x2).2.2) (fX5_nearest ((fX5_canAsk I R x1 x2).2) R x1)).1) 19) + 1)) 22 ((((fX5_fetchHot ((fX5_resolve (va_up (va_up (va_up (va_up (va_up ((fX5_canAsk I R x1 x2).2) 15 (fX5_nearest ((fX5_canAsk I R x1 x2).2) R x1)) 16 0) 17 0) 18 0) 25 0) R (fX5_nearest ((fX5_canAsk I R x1 x2).2) R x1) x2).2.1) ((fX5_resolve (va_up (va_up (va_up (va_up (va_up ((fX5_canAsk I R x1 x2).2) 15 (fX5_nearest ((fX5_canAsk I R x1 x2).2) R x1)) 16 0) 17 0) 18 0) 25 0) R (fX5_nearest ((fX5_canAsk I R x1 x2).2) R x1) x2).2.2) (fX5_nearest ((fX5_canAsk I R x1 x2).2) R x1)).1) 22) + 1)) 23 ((((fX5_fetchHot ((fX5_resolve (va_up (va_up (va_up (va_up (va_up ((fX5_canAsk I R x1 x2).2) 15 (fX5_nearest ((fX5_canAsk I R x1 x2).2) R x1)) 16 0) 17 0) 18 0) 25 0) R (fX5_nearest ((fX5_canAsk I R x1 x2).2) R x1) x2).2.1) ((fX5_resolve (va_up (va_up (va_up (va_up (va_up ((fX5_canAsk I R x1 x2).2) 15 (fX5_nearest ((fX5_canAsk I R x1 x2).2) R x1)) 16 0) 17 0) 18 0) 25 0) R (fX5_nearest ((fX5_canAsk I R x1 x2).2) R x1) x2).2.2) (fX5_nearest ((fX5_canAsk I R x1 x2).2) R x1)).1) 23) + 1)), ((fX5_fetchHot ((fX5_resolve (va_up (va_up (va_up (va_up (va_up ((fX5_canAsk I R x1 x2).2) 15 (fX5_nearest ((fX5_canAsk I R x1 x2).2) R x1)) 16 0) 17 0) 18 0) 25 0) R (fX5_nearest ((fX5_canAsk I R x1 x2).2) R x1) x2).2.1) ((fX5_resolve (va_up (va_up (va_up (va_up (va_up ((fX5_canAsk I R x1 x2).2) 15 (fX5_nearest ((fX5_canAsk I R x1 x2).2) R x1)) 16 0) 17 0) 18 0) 25 0) R (fX5_nearest ((fX5_canAsk I R x1 x2).2) R x1) x2).2.2) (fX5_nearest ((fX5_canAsk I R x1 x2).2) R x1)).2))
      else
        (((fX5_resolve (va_up (va_up (va_up (va_up (va_up ((fX5_canAsk I R x1 x2).2) 15 (fX5_nearest ((fX5_canAsk I R x1 x2).2) R x1)) 16 0) 17 0) 18 0) 25 0) R (fX5_nearest ((fX5_canAsk I R x1 x2).2) R x1) x2).1), (va_up (va_up (va_up ((fX5_fetchHot ((fX5_resolve (va_up (va_up (va_up (va_up (va_up ((fX5_canAsk I R x1 x2).2) 15 (fX5_nearest ((fX5_canAsk I R x1 x2).2) R x1)) 16 0) 17 0) 18 0) 25 0) R (fX5_nearest ((fX5_canAsk I R x1 x2).2) R x1) x2).2.1) ((fX5_resolve (va_up (va_up (va_up (va_up (va_up ((fX5_canAsk I R x1 x2).2) 15 (fX5_nearest ((fX5_canAsk I R x1 x2).2) R x1)) 16 0) 17 0) 18 0) 25 0) R (fX5_nearest ((fX5_canAsk I R x1 x2).2) R x1) x2).2.2) (fX5_nearest ((fX5_canAsk I R x1 x2).2) R x1)).1) 19 ((((fX5_fetchHot ((fX5_resolve (va_up (va_up (va_up (va_up (va_up ((fX5_canAsk I R x1 x2).2) 15 (fX5_nearest ((fX5_canAsk I R x1 x2).2) R x1)) 16 0) 17 0) 18 0) 25 0) R (fX5_nearest ((fX5_canAsk I R x1 x2).2) R x1) x2).2.1) ((fX5_resolve (va_up (va_up (va_up (va_up (va_up ((fX5_canAsk I R x1 x2).2) 15 (fX5_nearest ((fX5_canAsk I R x1 x2).2) R x1)) 16 0) 17 0) 18 0) 25 0) R (fX5_nearest ((fX5_canAsk I R x1 x2).2) R x1) x2).2.2) (fX5_nearest ((fX5_canAsk I R x1 x2).2) R x1)).1) 19) + 1)) 22 ((((fX5_fetchHot ((fX5_resolve (va_up (va_up (va_up (va_up (va_up ((fX5_canAsk I R x1 x2).2) 15 (fX5_nearest ((fX5_canAsk I R x1 x2).2) R x1)) 16 0) 17 0) 18 0) 25 0) R (fX5_nearest ((fX5_canAsk I R x1 x2).2) R x1) x2).2.1) ((fX5_resolve (va_up (va_up (va_up (va_up (va_up ((fX5_canAsk I R x1 x2).2) 15 (fX5_nearest ((fX5_canAsk I R x1 x2).2) R x1)) 16 0) 17 0) 18 0) 25 0) R (fX5_nearest ((fX5_canAsk I R x1 x2).2) R x1) x2).2.2) (fX5_nearest ((fX5_canAsk I R x1 x2).2) R x1)).1) 22) + 1)) 23 ((((fX5_fetchHot ((fX5_resolve (va_up (va_up (va_up (va_up (va_up ((fX5_canAsk I R x1 x2).2) 15 (fX5_nearest ((fX5_canAsk I R x1 x2).2) R x1)) 16 0) 17 0) 18 0) 25 0) R (fX5_nearest ((fX5_canAsk I R x1 x2).2) R x1) x2).2.1) ((fX5_resolve (va_up (va_up (va_up (va_up (va_up ((fX5_canAsk I R x1 x2).2) 15 (fX5_nearest ((fX5_canAsk I R x1 x2).2) R x1)) 16 0) 17 0) 18 0) 25 0) R (fX5_nearest ((fX5_canAsk I R x1 x2).2) R x1) x2).2.2) (fX5_nearest ((fX5_canAsk I R x1 x2).2) R x1)).1) 23) + 0)), ((fX5_fetchHot ((fX5_resolve (va_up (va_up (va_up (va_up (va_up ((fX5_canAsk I R x1 x2).2) 15 (fX5_nearest ((fX5_canAsk I R x1 x2).2) R x1)) 16 0) 17 0) 18 0) 25 0) R (fX5_nearest ((fX5_canAsk I R x1 x2).2) R x1) x2).2.1) ((fX5_resolve (va_up (va_up (va_up (va_up (va_up ((fX5_canAsk I R x1 x2).2) 15 (fX5_nearest ((fX5_canAsk I R x1 x2).2) R x1)) 16 0) 17 0) 18 0) 25 0) R (fX5_nearest ((fX5_canAsk I R x1 x2).2) R x1) x2).2.2) (fX5_nearest ((fX5_canAsk I R x1 x2).2) R x1)).2))
theorem hiX5_query_5 : ∀ w ∈ wsX50, w ∈ wsX5_query := by decide +kernel
theorem hfX5_query_67 : Cond.fieldLink RX5 67 "ResolverFleetModel" "lastPlace" "I" ∈ wsX5_query := by decide +kernel
theorem hfX5_query_121 : Cond.fieldLink RX5 121 "ResolverFleetModel" "lastStale" "Z" ∈ wsX5_query := by decide +kernel
theorem hfX5_query_111 : Cond.fieldLink RX5 111 "ResolverFleetModel" "lastMany" "I" ∈ wsX5_query := by decide +kernel
theorem hfX5_query_108 : Cond.fieldLink RX5 108 "ResolverFleetModel" "lastFetched" "I" ∈ wsX5_query := by decide +kernel
theorem hfX5_query_114 : Cond.fieldLink RX5 114 "ResolverFleetModel" "freshMany" "I" ∈ wsX5_query := by decide +kernel
theorem hfX5_query_140 : Cond.fieldLink RX5 140 "ResolverFleetModel" "queryMany" "I" ∈ wsX5_query := by decide +kernel
theorem hfX5_query_143 : Cond.fieldLink RX5 143 "ResolverFleetModel" "staleMany" "I" ∈ wsX5_query := by decide +kernel
theorem hfX5_query_146 : Cond.fieldLink RX5 146 "ResolverFleetModel" "failMany" "I" ∈ wsX5_query := by decide +kernel
set_option maxHeartbeats 4000000 in
set_option maxRecDepth 100000 in
theorem kX5_query (l : Launch) (hl : l.stackTraces = false) (K : zK) (am : Nat → Nat) (I : Nat → Int32) (R : Nat → Nat → Int32) (x1 : Int32) (x2 : Int32) (h5 : ¬ (I 5) < 0) (h6 : (I 5).toNatClampNeg ≤ 4) (hZ : zwZ R) (hC : zwC R) : zMet l K yX5_query wsX5_query { frames := 4, cells := 0, slots := 0, locals := 95 } [.ref (am 0), .int x1, .int x2] [zMo K am I R] (some (.int ((fX5_query I R x1 x2).1))) [zMo K am ((fX5_query I R x1 x2).2.1) ((fX5_query I R x1 x2).2.2)] True zNo := by
  refine zMeN.of (cc := cX5_query) (maxL := 5) (ret := (some .int)) (own := RX5) (nm := "query") hl (by decide +kernel) rfl rfl rfl (Nat.le_of_ble_eq_true rfl) (lv := [(0, .ref (am 0)), (1, .int x1), (2, .int x2)]) rfl ?_
  intro p e s m args below meth c A B
  refine z_aload_n B dX5_query_0 0 rfl ?_
  refine z_iload_n B dX5_query_1 1 rfl ?_
  refine z_iload_n B dX5_query_2 2 rfl ?_
  refine z_V1 B (kX5_canAsk l hl K am I R x1 x2 h5 h6) [0] [] (br := []) (bs' := [zMo K am ((fX5_canAsk I R x1 x2).2) R]) (st := []) (nA := 2) (zsp rfl rfl rfl) (zsp rfl rfl rfl) 0 0 rfl rfl rfl rfl gX5_query_X5_canAsk rfl (by decide +kernel) ⟨Nat.le_of_ble_eq_true rfl, Nat.le_of_ble_eq_true rfl⟩ rfl rfl (Nat.le_of_ble_eq_true rfl) ⟨Nat.le_of_ble_eq_true rfl, Nat.le_of_ble_eq_true rfl⟩ dX5_query_3 z_noX (fun _ => ?_)
  refine z_ifne B 11 dX5_query_6 (by decide) (fun c1 => ?_) (fun c1 => ?_)
  · refine z_iconst B (v := 0) dX5_query_9 rfl ?_
    have hF : fX5_query I R x1 x2 = (0, ((fX5_canAsk I R x1 x2).2), R) := if_pos c1
    exact z_ret1 B rfl dX5_query_10 () (trivial) (Nat.le_of_ble_eq_true rfl) (Nat.le_of_ble_eq_true rfl) (by rw [hF]) (by rw [hF])
  · refine z_aload_n B dX5_query_11 0 rfl ?_
    refine z_iload_n B dX5_query_12 1 rfl ?_
    refine z_V1 B (kX5_nearest l hl K am ((fX5_canAsk I R x1 x2).2) R x1 (by rw [z_caI (by decide)]; exact h5) (by rw [z_caI (by decide)]; exact h6)) [0] [] (br := []) (bs' := [zMo K am ((fX5_canAsk I R x1 x2).2) R]) (st := []) (nA := 1) (zsp rfl rfl rfl) (zsp rfl rfl rfl) 0 0 rfl rfl rfl rfl gX5_query_X5_nearest rfl (by decide +kernel) ⟨Nat.le_of_ble_eq_true rfl, Nat.le_of_ble_eq_true rfl⟩ rfl rfl (Nat.le_of_ble_eq_true rfl) ⟨Nat.le_of_ble_eq_true rfl, Nat.le_of_ble_eq_true rfl⟩ dX5_query_13 z_noX (fun _ => ?_)
    refine z_istore_n B (lv' := [(3, .int (fX5_nearest ((fX5_canAsk I R x1 x2).2) R x1)), (0, .ref (am 0)), (1, .int x1), (2, .int x2)]) dX5_query_16 (by decide) rfl ?_
    refine z_aload_n B dX5_query_17 1 rfl ?_
    refine z_iload_n B dX5_query_18 0 rfl ?_
    refine z_put B 0 0 15 hiX5_query_5 hfX5_query_67 tyX5_ok nmX5 rfl rfl rfl (by decide) rfl rfl rfl rfl rfl rfl rfl (Nat.le_of_ble_eq_true rfl) (bs' := [zMo K am (va_up ((fX5_canAsk I R x1 x2).2) 15 (fX5_nearest ((fX5_canAsk I R x1 x2).2) R x1)) R]) zMoI15 dX5_query_19 ?_
    refine z_aload_n B dX5_query_22 1 rfl ?_
    refine z_iconst B (v := 0) dX5_query_23 rfl ?_
    refine z_put B 0 0 16 hiX5_query_5 hfX5_query_121 tyX5_ok nmX5 rfl rfl rfl (by decide) rfl rfl rfl rfl rfl rfl rfl (Nat.le_of_ble_eq_true rfl) (bs' := [zMo K am (va_up (va_up ((fX5_canAsk I R x1 x2).2) 15 (fX5_nearest ((fX5_canAsk I R x1 x2).2) R x1)) 16 0) R]) zMoI16 dX5_query_24 ?_
    refine z_aload_n B dX5_query_27 1 rfl ?_
    refine z_iconst B (v := 0) dX5_query_28 rfl ?_
    refine z_put B 0 0 17 hiX5_query_5 hfX5_query_111 tyX5_ok nmX5 rfl rfl rfl (by decide) rfl rfl rfl rfl rfl rfl rfl (Nat.le_of_ble_eq_true rfl) (bs' := [zMo K am (va_up (va_up (va_up ((fX5_canAsk I R x1 x2).2) 15 (fX5_nearest ((fX5_canAsk I R x1 x2).2) R x1)) 16 0) 17 0) R]) zMoI17 dX5_query_29 ?_
    refine z_aload_n B dX5_query_32 1 rfl ?_
    refine z_iconst B (v := 0) dX5_query_33 rfl ?_
    refine z_put B 0 0 18 hiX5_query_5 hfX5_query_108 tyX5_ok nmX5 rfl rfl rfl (by decide) rfl rfl rfl rfl rfl rfl rfl (Nat.le_of_ble_eq_true rfl) (bs' := [zMo K am (va_up (va_up (va_up (va_up ((fX5_canAsk I R x1 x2).2) 15 (fX5_nearest ((fX5_canAsk I R x1 x2).2) R x1)) 16 0) 17 0) 18 0) R]) zMoI18 dX5_query_34 ?_
    refine z_aload_n B dX5_query_37 1 rfl ?_
    refine z_iconst B (v := 0) dX5_query_38 rfl ?_
    refine z_put B 0 0 25 hiX5_query_5 hfX5_query_114 tyX5_ok nmX5 rfl rfl rfl (by decide) rfl rfl rfl rfl rfl rfl rfl (Nat.le_of_ble_eq_true rfl) (bs' := [zMo K am (va_up (va_up (va_up (va_up (va_up ((fX5_canAsk I R x1 x2).2) 15 (fX5_nearest ((fX5_canAsk I R x1 x2).2) R x1)) 16 0) 17 0) 18 0) 25 0) R]) zMoI25 dX5_query_39 ?_
    refine z_aload_n B dX5_query_42 1 rfl ?_
    refine z_iload_n B dX5_query_43 0 rfl ?_
    refine z_iload_n B dX5_query_44 3 rfl ?_
    refine z_V1 B (kX5_resolve l hl K am (va_up (va_up (va_up (va_up (va_up ((fX5_canAsk I R x1 x2).2) 15 (fX5_nearest ((fX5_canAsk I R x1 x2).2) R x1)) 16 0) 17 0) 18 0) 25 0) R (fX5_nearest ((fX5_canAsk I R x1 x2).2) R x1) x2 (z_caS h5 h6 c1).1 (z_caS h5 h6 c1).2 hZ hC rfl) [0] [] (br := []) (bs' := [zMo K am ((fX5_resolve (va_up (va_up (va_up (va_up (va_up ((fX5_canAsk I R x1 x2).2) 15 (fX5_nearest ((fX5_canAsk I R x1 x2).2) R x1)) 16 0) 17 0) 18 0) 25 0) R (fX5_nearest ((fX5_canAsk I R x1 x2).2) R x1) x2).2.1) ((fX5_resolve (va_up (va_up (va_up (va_up (va_up ((fX5_canAsk I R x1 x2).2) 15 (fX5_nearest ((fX5_canAsk I R x1 x2).2) R x1)) 16 0) 17 0) 18 0) 25 0) R (fX5_nearest ((fX5_canAsk I R x1 x2).2) R x1) x2).2.2)]) (st := []) (nA := 2) (zsp rfl rfl rfl) (zsp rfl rfl rfl) 0 0 rfl rfl rfl rfl gX5_query_X5_resolve rfl (by decide +kernel) ⟨Nat.le_of_ble_eq_true rfl, Nat.le_of_ble_eq_true rfl⟩ rfl rfl (Nat.le_of_ble_eq_true rfl) ⟨Nat.le_of_ble_eq_true rfl, Nat.le_of_ble_eq_true rfl⟩ dX5_query_45 z_noX (fun _ => ?_)
    refine z_istore B (lv' := [(4, .int ((fX5_resolve (va_up (va_up (va_up (va_up (va_up ((fX5_canAsk I R x1 x2).2) 15 (fX5_nearest ((fX5_canAsk I R x1 x2).2) R x1)) 16 0) 17 0) 18 0) 25 0) R (fX5_nearest ((fX5_canAsk I R x1 x2).2) R x1) x2).1)), (3, .int (fX5_nearest ((fX5_canAsk I R x1 x2).2) R x1)), (0, .ref (am 0)), (1, .int x1), (2, .int x2)]) dX5_query_48 (by decide) rfl ?_
    refine z_aload_n B dX5_query_50 2 rfl ?_
    refine z_iload_n B dX5_query_51 1 rfl ?_
    refine z_V0 B (kX5_fetchHot l hl K am ((fX5_resolve (va_up (va_up (va_up (va_up (va_up ((fX5_canAsk I R x1 x2).2) 15 (fX5_nearest ((fX5_canAsk I R x1 x2).2) R x1)) 16 0) 17 0) 18 0) 25 0) R (fX5_nearest ((fX5_canAsk I R x1 x2).2) R x1) x2).2.1) ((fX5_resolve (va_up (va_up (va_up (va_up (va_up ((fX5_canAsk I R x1 x2).2) 15 (fX5_nearest ((fX5_canAsk I R x1 x2).2) R x1)) 16 0) 17 0) 18 0) 25 0) R (fX5_nearest ((fX5_canAsk I R x1 x2).2) R x1) x2).2.2) (fX5_nearest ((fX5_canAsk I R x1 x2).2) R x1) (z_caS h5 h6 c1).1 (z_rs (z_caS h5 h6 c1).1 (z_caS h5 h6 c1).2 hZ hC rfl).2.2.1) [0] [] (br := []) (bs' := [zMo K am ((fX5_fetchHot ((fX5_resolve (va_up (va_up (va_up (va_up (va_up ((fX5_canAsk I R x1 x2).2) 15 (fX5_nearest ((fX5_canAsk I R x1 x2).2) R x1)) 16 0) 17 0) 18 0) 25 0) R (fX5_nearest ((fX5_canAsk I R x1 x2).2) R x1) x2).2.1) ((fX5_resolve (va_up (va_up (va_up (va_up (va_up ((fX5_canAsk I R x1 x2).2) 15 (fX5_nearest ((fX5_canAsk I R x1 x2).2) R x1)) 16 0) 17 0) 18 0) 25 0) R (fX5_nearest ((fX5_canAsk I R x1 x2).2) R x1) x2).2.2) (fX5_nearest ((fX5_canAsk I R x1 x2).2) R x1)).1) ((fX5_fetchHot ((fX5_resolve (va_up (va_up (va_up (va_up (va_up ((fX5_canAsk I R x1 x2).2) 15 (fX5_nearest ((fX5_canAsk I R x1 x2).2) R x1)) 16 0) 17 0) 18 0) 25 0) R (fX5_nearest ((fX5_canAsk I R x1 x2).2) R x1) x2).2.1) ((fX5_resolve (va_up (va_up (va_up (va_up (va_up ((fX5_canAsk I R x1 x2).2) 15 (fX5_nearest ((fX5_canAsk I R x1 x2).2) R x1)) 16 0) 17 0) 18 0) 25 0) R (fX5_nearest ((fX5_canAsk I R x1 x2).2) R x1) x2).2.2) (fX5_nearest ((fX5_canAsk I R x1 x2).2) R x1)).2)]) (st := []) (nA := 1) (zsp rfl rfl rfl) (zsp rfl rfl rfl) 0 0 rfl rfl rfl rfl gX5_query_X5_fetchHot rfl (by decide +kernel) ⟨Nat.le_of_ble_eq_true rfl, Nat.le_of_ble_eq_true rfl⟩ rfl rfl (Nat.le_of_ble_eq_true rfl) ⟨Nat.le_of_ble_eq_true rfl, Nat.le_of_ble_eq_true rfl⟩ dX5_query_52 z_noX (fun _ => ?_)
    refine z_aload_n B dX5_query_55 2 rfl ?_
    refine z_dup B dX5_query_56 rfl ?_
    refine z_get B (v := .int (((fX5_fetchHot ((fX5_resolve (va_up (va_up (va_up (va_up (va_up ((fX5_canAsk I R x1 x2).2) 15 (fX5_nearest ((fX5_canAsk I R x1 x2).2) R x1)) 16 0) 17 0) 18 0) 25 0) R (fX5_nearest ((fX5_canAsk I R x1 x2).2) R x1) x2).2.1) ((fX5_resolve (va_up (va_up (va_up (va_up (va_up ((fX5_canAsk I R x1 x2).2) 15 (fX5_nearest ((fX5_canAsk I R x1 x2).2) R x1)) 16 0) 17 0) 18 0) 25 0) R (fX5_nearest ((fX5_canAsk I R x1 x2).2) R x1) x2).2.2) (fX5_nearest ((fX5_canAsk I R x1 x2).2) R x1)).1) 19)) 0 0 19 hiX5_query_5 hfX5_query_140 rfl rfl rfl (by decide) rfl rfl rfl rfl dX5_query_57 ?_
    refine z_iconst B (v := 1) dX5_query_60 rfl ?_
    refine z_iadd B dX5_query_61 ?_
    refine z_put B 0 0 19 hiX5_query_5 hfX5_query_140 tyX5_ok nmX5 rfl rfl rfl (by decide) rfl rfl rfl rfl rfl rfl rfl (Nat.le_of_ble_eq_true rfl) (bs' := [zMo K am (va_up ((fX5_fetchHot ((fX5_resolve (va_up (va_up (va_up (va_up (va_up ((fX5_canAsk I R x1 x2).2) 15 (fX5_nearest ((fX5_canAsk I R x1 x2).2) R x1)) 16 0) 17 0) 18 0) 25 0) R (fX5_nearest ((fX5_canAsk I R x1 x2).2) R x1) x2).2.1) ((fX5_resolve (va_up (va_up (va_up (va_up (va_up ((fX5_canAsk I R x1 x2).2) 15 (fX5_nearest ((fX5_canAsk I R x1 x2).2) R x1)) 16 0) 17 0) 18 0) 25 0) R (fX5_nearest ((fX5_canAsk I R x1 x2).2) R x1) x2).2.2) (fX5_nearest ((fX5_canAsk I R x1 x2).2) R x1)).1) 19 ((((fX5_fetchHot ((fX5_resolve (va_up (va_up (va_up (va_up (va_up ((fX5_canAsk I R x1 x2).2) 15 (fX5_nearest ((fX5_canAsk I R x1 x2).2) R x1)) 16 0) 17 0) 18 0) 25 0) R (fX5_nearest ((fX5_canAsk I R x1 x2).2) R x1) x2).2.1) ((fX5_resolve (va_up (va_up (va_up (va_up (va_up ((fX5_canAsk I R x1 x2).2) 15 (fX5_nearest ((fX5_canAsk I R x1 x2).2) R x1)) 16 0) 17 0) 18 0) 25 0) R (fX5_nearest ((fX5_canAsk I R x1 x2).2) R x1) x2).2.2) (fX5_nearest ((fX5_canAsk I R x1 x2).2) R x1)).1) 19) + 1)) ((fX5_fetchHot ((fX5_resolve (va_up (va_up (va_up (va_up (va_up ((fX5_canAsk I R x1 x2).2) 15 (fX5_nearest ((fX5_canAsk I R x1 x2).2) R x1)) 16 0) 17 0) 18 0) 25 0) R (fX5_nearest ((fX5_canAsk I R x1 x2).2) R x1) x2).2.1) ((fX5_resolve (va_up (va_up (va_up (va_up (va_up ((fX5_canAsk I R x1 x2).2) 15 (fX5_nearest ((fX5_canAsk I R x1 x2).2) R x1)) 16 0) 17 0) 18 0) 25 0) R (fX5_nearest ((fX5_canAsk I R x1 x2).2) R x1) x2).2.2) (fX5_nearest ((fX5_canAsk I R x1 x2).2) R x1)).2)]) zMoI19 dX5_query_62 ?_
    refine z_aload_n B dX5_query_65 2 rfl ?_
    refine z_dup B dX5_query_66 rfl ?_
    refine z_get B (v := .int (((fX5_fetchHot ((fX5_resolve (va_up (va_up (va_up (va_up (va_up ((fX5_canAsk I R x1 x2).2) 15 (fX5_nearest ((fX5_canAsk I R x1 x2).2) R x1)) 16 0) 17 0) 18 0) 25 0) R (fX5_nearest ((fX5_canAsk I R x1 x2).2) R x1) x2).2.1) ((fX5_resolve (va_up (va_up (va_up (va_up (va_up ((fX5_canAsk I R x1 x2).2) 15 (fX5_nearest ((fX5_canAsk I R x1 x2).2) R x1)) 16 0) 17 0) 18 0) 25 0) R (fX5_nearest ((fX5_canAsk I R x1 x2).2) R x1) x2).2.2) (fX5_nearest ((fX5_canAsk I R x1 x2).2) R x1)).1) 22)) 0 0 22 hiX5_query_5 hfX5_query_143 rfl rfl rfl (by decide) rfl rfl rfl rfl dX5_query_67 ?_
    refine z_aload_n B dX5_query_70 2 rfl ?_
    refine z_get B (v := .int (((fX5_fetchHot ((fX5_resolve (va_up (va_up (va_up (va_up (va_up ((fX5_canAsk I R x1 x2).2) 15 (fX5_nearest ((fX5_canAsk I R x1 x2).2) R x1)) 16 0) 17 0) 18 0) 25 0) R (fX5_nearest ((fX5_canAsk I R x1 x2).2) R x1) x2).2.1) ((fX5_resolve (va_up (va_up (va_up (va_up (va_up ((fX5_canAsk I R x1 x2).2) 15 (fX5_nearest ((fX5_canAsk I R x1 x2).2) R x1)) 16 0) 17 0) 18 0) 25 0) R (fX5_nearest ((fX5_canAsk I R x1 x2).2) R x1) x2).2.2) (fX5_nearest ((fX5_canAsk I R x1 x2).2) R x1)).1) 16)) 0 0 16 hiX5_query_5 hfX5_query_121 rfl rfl rfl (by decide) rfl rfl rfl rfl dX5_query_71 ?_
    refine z_ifeq B 81 dX5_query_74 (by decide) (fun c2 => ?_) (fun c2 => ?_)
    · refine z_iconst B (v := 0) dX5_query_81 rfl ?_
      refine z_iadd B dX5_query_82 ?_
      refine z_put B 0 0 22 hiX5_query_5 hfX5_query_143 tyX5_ok nmX5 rfl rfl rfl (by decide) rfl rfl rfl rfl rfl rfl rfl (Nat.le_of_ble_eq_true rfl) (bs' := [zMo K am (va_up (va_up ((fX5_fetchHot ((fX5_resolve (va_up (va_up (va_up (va_up (va_up ((fX5_canAsk I R x1 x2).2) 15 (fX5_nearest ((fX5_canAsk I R x1 x2).2) R x1)) 16 0) 17 0) 18 0) 25 0) R (fX5_nearest ((fX5_canAsk I R x1 x2).2) R x1) x2).2.1) ((fX5_resolve (va_up (va_up (va_up (va_up (va_up ((fX5_canAsk I R x1 x2).2) 15 (fX5_nearest ((fX5_canAsk I R x1 x2).2) R x1)) 16 0) 17 0) 18 0) 25 0) R (fX5_nearest ((fX5_canAsk I R x1 x2).2) R x1) x2).2.2) (fX5_nearest ((fX5_canAsk I R x1 x2).2) R x1)).1) 19 ((((fX5_fetchHot ((fX5_resolve (va_up (va_up (va_up (va_up (va_up ((fX5_canAsk I R x1 x2).2) 15 (fX5_nearest ((fX5_canAsk I R x1 x2).2) R x1)) 16 0) 17 0) 18 0) 25 0) R (fX5_nearest ((fX5_canAsk I R x1 x2).2) R x1) x2).2.1) ((fX5_resolve (va_up (va_up (va_up (va_up (va_up ((fX5_canAsk I R x1 x2).2) 15 (fX5_nearest ((fX5_canAsk I R x1 x2).2) R x1)) 16 0) 17 0) 18 0) 25 0) R (fX5_nearest ((fX5_canAsk I R x1 x2).2) R x1) x2).2.2) (fX5_nearest ((fX5_canAsk I R x1 x2).2) R x1)).1) 19) + 1)) 22 ((((fX5_fetchHot ((fX5_resolve (va_up (va_up (va_up (va_up (va_up ((fX5_canAsk I R x1 x2).2) 15 (fX5_nearest ((fX5_canAsk I R x1 x2).2) R x1)) 16 0) 17 0) 18 0) 25 0) R (fX5_nearest ((fX5_canAsk I R x1 x2).2) R x1) x2).2.1) ((fX5_resolve (va_up (va_up (va_up (va_up (va_up ((fX5_canAsk I R x1 x2).2) 15 (fX5_nearest ((fX5_canAsk I R x1 x2).2) R x1)) 16 0) 17 0) 18 0) 25 0) R (fX5_nearest ((fX5_canAsk I R x1 x2).2) R x1) x2).2.2) (fX5_nearest ((fX5_canAsk I R x1 x2).2) R x1)).1) 22) + 0)) ((fX5_fetchHot ((fX5_resolve (va_up (va_up (va_up (va_up (va_up ((fX5_canAsk I R x1 x2).2) 15 (fX5_nearest ((fX5_canAsk I R x1 x2).2) R x1)) 16 0) 17 0) 18 0) 25 0) R (fX5_nearest ((fX5_canAsk I R x1 x2).2) R x1) x2).2.1) ((fX5_resolve (va_up (va_up (va_up (va_up (va_up ((fX5_canAsk I R x1 x2).2) 15 (fX5_nearest ((fX5_canAsk I R x1 x2).2) R x1)) 16 0) 17 0) 18 0) 25 0) R (fX5_nearest ((fX5_canAsk I R x1 x2).2) R x1) x2).2.2) (fX5_nearest ((fX5_canAsk I R x1 x2).2) R x1)).2)]) zMoI22 dX5_query_83 ?_
      refine z_aload_n B dX5_query_86 2 rfl ?_
      refine z_dup B dX5_query_87 rfl ?_
      refine z_get B (v := .int (((fX5_fetchHot ((fX5_resolve (va_up (va_up (va_up (va_up (va_up ((fX5_canAsk I R x1 x2).2) 15 (fX5_nearest ((fX5_canAsk I R x1 x2).2) R x1)) 16 0) 17 0) 18 0) 25 0) R (fX5_nearest ((fX5_canAsk I R x1 x2).2) R x1) x2).2.1) ((fX5_resolve (va_up (va_up (va_up (va_up (va_up ((fX5_canAsk I R x1 x2).2) 15 (fX5_nearest ((fX5_canAsk I R x1 x2).2) R x1)) 16 0) 17 0) 18 0) 25 0) R (fX5_nearest ((fX5_canAsk I R x1 x2).2) R x1) x2).2.2) (fX5_nearest ((fX5_canAsk I R x1 x2).2) R x1)).1) 23)) 0 0 23 hiX5_query_5 hfX5_query_146 rfl rfl rfl (by decide) rfl rfl rfl rfl dX5_query_88 ?_
      refine z_iload B dX5_query_91 0 rfl ?_
      refine z_bipush B (v := (-2)) dX5_query_93 rfl ?_
      refine z_icne B 102 dX5_query_95 (by decide) (fun c3 => ?_) (fun c3 => ?_)
      · refine z_iconst B (v := 1) dX5_query_98 rfl ?_
        refine z_goto B (tgt := 103) dX5_query_99 (by decide) ?_
        refine z_iadd B dX5_query_103 ?_
        refine z_put B 0 0 23 hiX5_query_5 hfX5_query_146 tyX5_ok nmX5 rfl rfl rfl (by decide) rfl rfl rfl rfl rfl rfl rfl (Nat.le_of_ble_eq_true rfl) (bs' := [zMo K am (va_up (va_up (va_up ((fX5_fetchHot ((fX5_resolve (va_up (va_up (va_up (va_up (va_up ((fX5_canAsk I R x1 x2).2) 15 (fX5_nearest ((fX5_canAsk I R x1 x2).2) R x1)) 16 0) 17 0) 18 0) 25 0) R (fX5_nearest ((fX5_canAsk I R x1 x2).2) R x1) x2).2.1) ((fX5_resolve (va_up (va_up (va_up (va_up (va_up ((fX5_canAsk I R x1 x2).2) 15 (fX5_nearest ((fX5_canAsk I R x1 x2).2) R x1)) 16 0) 17 0) 18 0) 25 0) R (fX5_nearest ((fX5_canAsk I R x1 x2).2) R x1) x2).2.2) (fX5_nearest ((fX5_canAsk I R x1 x2).2) R x1)).1) 19 ((((fX5_fetchHot ((fX5_resolve (va_up (va_up (va_up (va_up (va_up ((fX5_canAsk I R x1 x2).2) 15 (fX5_nearest ((fX5_canAsk I R x1 x2).2) R x1)) 16 0) 17 0) 18 0) 25 0) R (fX5_nearest ((fX5_canAsk I R x1 x2).2) R x1) x2).2.1) ((fX5_resolve (va_up (va_up (va_up (va_up (va_up ((fX5_canAsk I R x1 x2).2) 15 (fX5_nearest ((fX5_canAsk I R x1 x2).2) R x1)) 16 0) 17 0) 18 0) 25 0) R (fX5_nearest ((fX5_canAsk I R x1 x2).2) R x1) x2).2.2) (fX5_nearest ((fX5_canAsk I R x1 x2).2) R x1)).1) 19) + 1)) 22 ((((fX5_fetchHot ((fX5_resolve (va_up (va_up (va_up (va_up (va_up ((fX5_canAsk I R x1 x2).2) 15 (fX5_nearest ((fX5_canAsk I R x1 x2).2) R x1)) 16 0) 17 0) 18 0) 25 0) R (fX5_nearest ((fX5_canAsk I R x1 x2).2) R x1) x2).2.1) ((fX5_resolve (va_up (va_up (va_up (va_up (va_up ((fX5_canAsk I R x1 x2).2) 15 (fX5_nearest ((fX5_canAsk I R x1 x2).2) R x1)) 16 0) 17 0) 18 0) 25 0) R (fX5_nearest ((fX5_canAsk I R x1 x2).2) R x1) x2).2.2) (fX5_nearest ((fX5_canAsk I R x1 x2).2) R x1)).1) 22) + 0)) 23 ((((fX5_fetchHot ((fX5_resolve (va_up (va_up (va_up (va_up (va_up ((fX5_canAsk I R x1 x2).2) 15 (fX5_nearest ((fX5_canAsk I R x1 x2).2) R x1)) 16 0) 17 0) 18 0) 25 0) R (fX5_nearest ((fX5_canAsk I R x1 x2).2) R x1) x2).2.1) ((fX5_resolve (va_up (va_up (va_up (va_up (va_up ((fX5_canAsk I R x1 x2).2) 15 (fX5_nearest ((fX5_canAsk I R x1 x2).2) R x1)) 16 0) 17 0) 18 0) 25 0) R (fX5_nearest ((fX5_canAsk I R x1 x2).2) R x1) x2).2.2) (fX5_nearest ((fX5_canAsk I R x1 x2).2) R x1)).1) 23) + 1)) ((fX5_fetchHot ((fX5_resolve (va_up (va_up (va_up (va_up (va_up ((fX5_canAsk I R x1 x2).2) 15 (fX5_nearest ((fX5_canAsk I R x1 x2).2) R x1)) 16 0) 17 0) 18 0) 25 0) R (fX5_nearest ((fX5_canAsk I R x1 x2).2) R x1) x2).2.1) ((fX5_resolve (va_up (va_up (va_up (va_up (va_up ((fX5_canAsk I R x1 x2).2) 15 (fX5_nearest ((fX5_canAsk I R x1 x2).2) R x1)) 16 0) 17 0) 18 0) 25 0) R (fX5_nearest ((fX5_canAsk I R x1 x2).2) R x1) x2).2.2) (fX5_nearest ((fX5_canAsk I R x1 x2).2) R x1)).2)]) zMoI23 dX5_query_104 ?_
        refine z_iload B dX5_query_107 0 rfl ?_
        have hF : fX5_query I R x1 x2 = (((fX5_resolve (va_up (va_up (va_up (va_up (va_up ((fX5_canAsk I R x1 x2).2) 15 (fX5_nearest ((fX5_canAsk I R x1 x2).2) R x1)) 16 0) 17 0) 18 0) 25 0) R (fX5_nearest ((fX5_canAsk I R x1 x2).2) R x1) x2).1), (va_up (va_up (va_up ((fX5_fetchHot ((fX5_resolve (va_up (va_up (va_up (va_up (va_up ((fX5_canAsk I R x1 x2).2) 15 (fX5_nearest ((fX5_canAsk I R x1 x2).2) R x1)) 16 0) 17 0) 18 0) 25 0) R (fX5_nearest ((fX5_canAsk I R x1 x2).2) R x1) x2).2.1) ((fX5_resolve (va_up (va_up (va_up (va_up (va_up ((fX5_canAsk I R x1 x2).2) 15 (fX5_nearest ((fX5_canAsk I R x1 x2).2) R x1)) 16 0) 17 0) 18 0) 25 0) R (fX5_nearest ((fX5_canAsk I R x1 x2).2) R x1) x2).2.2) (fX5_nearest ((fX5_canAsk I R x1 x2).2) R x1)).1) 19 ((((fX5_fetchHot ((fX5_resolve (va_up (va_up (va_up (va_up (va_up ((fX5_canAsk I R x1 x2).2) 15 (fX5_nearest ((fX5_canAsk I R x1 x2).2) R x1)) 16 0) 17 0) 18 0) 25 0) R (fX5_nearest ((fX5_canAsk I R x1 x2).2) R x1) x2).2.1) ((fX5_resolve (va_up (va_up (va_up (va_up (va_up ((fX5_canAsk I R x1 x2).2) 15 (fX5_nearest ((fX5_canAsk I R x1 x2).2) R x1)) 16 0) 17 0) 18 0) 25 0) R (fX5_nearest ((fX5_canAsk I R x1 x2).2) R x1) x2).2.2) (fX5_nearest ((fX5_canAsk I R x1 x2).2) R x1)).1) 19) + 1)) 22 ((((fX5_fetchHot ((fX5_resolve (va_up (va_up (va_up (va_up (va_up ((fX5_canAsk I R x1 x2).2) 15 (fX5_nearest ((fX5_canAsk I R x1 x2).2) R x1)) 16 0) 17 0) 18 0) 25 0) R (fX5_nearest ((fX5_canAsk I R x1 x2).2) R x1) x2).2.1) ((fX5_resolve (va_up (va_up (va_up (va_up (va_up ((fX5_canAsk I R x1 x2).2) 15 (fX5_nearest ((fX5_canAsk I R x1 x2).2) R x1)) 16 0) 17 0) 18 0) 25 0) R (fX5_nearest ((fX5_canAsk I R x1 x2).2) R x1) x2).2.2) (fX5_nearest ((fX5_canAsk I R x1 x2).2) R x1)).1) 22) + 0)) 23 ((((fX5_fetchHot ((fX5_resolve (va_up (va_up (va_up (va_up (va_up ((fX5_canAsk I R x1 x2).2) 15 (fX5_nearest ((fX5_canAsk I R x1 x2).2) R x1)) 16 0) 17 0) 18 0) 25 0) R (fX5_nearest ((fX5_canAsk I R x1 x2).2) R x1) x2).2.1) ((fX5_resolve (va_up (va_up (va_up (va_up (va_up ((fX5_canAsk I R x1 x2).2) 15 (fX5_nearest ((fX5_canAsk I R x1 x2).2) R x1)) 16 0) 17 0) 18 0) 25 0) R (fX5_nearest ((fX5_canAsk I R x1 x2).2) R x1) x2).2.2) (fX5_nearest ((fX5_canAsk I R x1 x2).2) R x1)).1) 23) + 1)), ((fX5_fetchHot ((fX5_resolve (va_up (va_up (va_up (va_up (va_up ((fX5_canAsk I R x1 x2).2) 15 (fX5_nearest ((fX5_canAsk I R x1 x2).2) R x1)) 16 0) 17 0) 18 0) 25 0) R (fX5_nearest ((fX5_canAsk I R x1 x2).2) R x1) x2).2.1) ((fX5_resolve (va_up (va_up (va_up (va_up (va_up ((fX5_canAsk I R x1 x2).2) 15 (fX5_nearest ((fX5_canAsk I R x1 x2).2) R x1)) 16 0) 17 0) 18 0) 25 0) R (fX5_nearest ((fX5_canAsk I R x1 x2).2) R x1) x2).2.2) (fX5_nearest ((fX5_canAsk I R x1 x2).2) R x1)).2)) := (if_neg c1).trans ((if_pos c2).trans (if_pos c3))
        exact z_ret1 B rfl dX5_query_109 () (trivial) (Nat.le_of_ble_eq_true rfl) (Nat.le_of_ble_eq_true rfl) (by rw [hF]) (by rw [hF])
      · refine z_iconst B (v := 0) dX5_query_102 rfl ?_
        refine z_iadd B dX5_query_103 ?_
        refine z_put B 0 0 23 hiX5_query_5 hfX5_query_146 tyX5_ok nmX5 rfl rfl rfl (by decide) rfl rfl rfl rfl rfl rfl rfl (Nat.le_of_ble_eq_true rfl) (bs' := [zMo K am (va_up (va_up (va_up ((fX5_fetchHot ((fX5_resolve (va_up (va_up (va_up (va_up (va_up ((fX5_canAsk I R x1 x2).2) 15 (fX5_nearest ((fX5_canAsk I R x1 x2).2) R x1)) 16 0) 17 0) 18 0) 25 0) R (fX5_nearest ((fX5_canAsk I R x1 x2).2) R x1) x2).2.1) ((fX5_resolve (va_up (va_up (va_up (va_up (va_up ((fX5_canAsk I R x1 x2).2) 15 (fX5_nearest ((fX5_canAsk I R x1 x2).2) R x1)) 16 0) 17 0) 18 0) 25 0) R (fX5_nearest ((fX5_canAsk I R x1 x2).2) R x1) x2).2.2) (fX5_nearest ((fX5_canAsk I R x1 x2).2) R x1)).1) 19 ((((fX5_fetchHot ((fX5_resolve (va_up (va_up (va_up (va_up (va_up ((fX5_canAsk I R x1 x2).2) 15 (fX5_nearest ((fX5_canAsk I R x1 x2).2) R x1)) 16 0) 17 0) 18 0) 25 0) R (fX5_nearest ((fX5_canAsk I R x1 x2).2) R x1) x2).2.1) ((fX5_resolve (va_up (va_up (va_up (va_up (va_up ((fX5_canAsk I R x1 x2).2) 15 (fX5_nearest ((fX5_canAsk I R x1 x2).2) R x1)) 16 0) 17 0) 18 0) 25 0) R (fX5_nearest ((fX5_canAsk I R x1 x2).2) R x1) x2).2.2) (fX5_nearest ((fX5_canAsk I R x1 x2).2) R x1)).1) 19) + 1)) 22 ((((fX5_fetchHot ((fX5_resolve (va_up (va_up (va_up (va_up (va_up ((fX5_canAsk I R x1 x2).2) 15 (fX5_nearest ((fX5_canAsk I R x1 x2).2) R x1)) 16 0) 17 0) 18 0) 25 0) R (fX5_nearest ((fX5_canAsk I R x1 x2).2) R x1) x2).2.1) ((fX5_resolve (va_up (va_up (va_up (va_up (va_up ((fX5_canAsk I R x1 x2).2) 15 (fX5_nearest ((fX5_canAsk I R x1 x2).2) R x1)) 16 0) 17 0) 18 0) 25 0) R (fX5_nearest ((fX5_canAsk I R x1 x2).2) R x1) x2).2.2) (fX5_nearest ((fX5_canAsk I R x1 x2).2) R x1)).1) 22) + 0)) 23 ((((fX5_fetchHot ((fX5_resolve (va_up (va_up (va_up (va_up (va_up ((fX5_canAsk I R x1 x2).2) 15 (fX5_nearest ((fX5_canAsk I R x1 x2).2) R x1)) 16 0) 17 0) 18 0) 25 0) R (fX5_nearest ((fX5_canAsk I R x1 x2).2) R x1) x2).2.1) ((fX5_resolve (va_up (va_up (va_up (va_up (va_up ((fX5_canAsk I R x1 x2).2) 15 (fX5_nearest ((fX5_canAsk I R x1 x2).2) R x1)) 16 0) 17 0) 18 0) 25 0) R (fX5_nearest ((fX5_canAsk I R x1 x2).2) R x1) x2).2.2) (fX5_nearest ((fX5_canAsk I R x1 x2).2) R x1)).1) 23) + 0)) ((fX5_fetchHot ((fX5_resolve (va_up (va_up (va_up (va_up (va_up ((fX5_canAsk I R x1 x2).2) 15 (fX5_nearest ((fX5_canAsk I R x1 x2).2) R x1)) 16 0) 17 0) 18 0) 25 0) R (fX5_nearest ((fX5_canAsk I R x1 x2).2) R x1) x2).2.1) ((fX5_resolve (va_up (va_up (va_up (va_up (va_up ((fX5_canAsk I R x1 x2).2) 15 (fX5_nearest ((fX5_canAsk I R x1 x2).2) R x1)) 16 0) 17 0) 18 0) 25 0) R (fX5_nearest ((fX5_canAsk I R x1 x2).2) R x1) x2).2.2) (fX5_nearest ((fX5_canAsk I R x1 x2).2) R x1)).2)]) zMoI23 dX5_query_104 ?_
        refine z_iload B dX5_query_107 0 rfl ?_
        have hF : fX5_query I R x1 x2 = (((fX5_resolve (va_up (va_up (va_up (va_up (va_up ((fX5_canAsk I R x1 x2).2) 15 (fX5_nearest ((fX5_canAsk I R x1 x2).2) R x1)) 16 0) 17 0) 18 0) 25 0) R (fX5_nearest ((fX5_canAsk I R x1 x2).2) R x1) x2).1), (va_up (va_up (va_up ((fX5_fetchHot ((fX5_resolve (va_up (va_up (va_up (va_up (va_up ((fX5_canAsk I R x1 x2).2) 15 (fX5_nearest ((fX5_canAsk I R x1 x2).2) R x1)) 16 0) 17 0) 18 0) 25 0) R (fX5_nearest ((fX5_canAsk I R x1 x2).2) R x1) x2).2.1) ((fX5_resolve (va_up (va_up (va_up (va_up (va_up ((fX5_canAsk I R x1 x2).2) 15 (fX5_nearest ((fX5_canAsk I R x1 x2).2) R x1)) 16 0) 17 0) 18 0) 25 0) R (fX5_nearest ((fX5_canAsk I R x1 x2).2) R x1) x2).2.2) (fX5_nearest ((fX5_canAsk I R x1 x2).2) R x1)).1) 19 ((((fX5_fetchHot ((fX5_resolve (va_up (va_up (va_up (va_up (va_up ((fX5_canAsk I R x1 x2).2) 15 (fX5_nearest ((fX5_canAsk I R x1 x2).2) R x1)) 16 0) 17 0) 18 0) 25 0) R (fX5_nearest ((fX5_canAsk I R x1 x2).2) R x1) x2).2.1) ((fX5_resolve (va_up (va_up (va_up (va_up (va_up ((fX5_canAsk I R x1 x2).2) 15 (fX5_nearest ((fX5_canAsk I R x1 x2).2) R x1)) 16 0) 17 0) 18 0) 25 0) R (fX5_nearest ((fX5_canAsk I R x1 x2).2) R x1) x2).2.2) (fX5_nearest ((fX5_canAsk I R x1 x2).2) R x1)).1) 19) + 1)) 22 ((((fX5_fetchHot ((fX5_resolve (va_up (va_up (va_up (va_up (va_up ((fX5_canAsk I R x1 x2).2) 15 (fX5_nearest ((fX5_canAsk I R x1 x2).2) R x1)) 16 0) 17 0) 18 0) 25 0) R (fX5_nearest ((fX5_canAsk I R x1 x2).2) R x1) x2).2.1) ((fX5_resolve (va_up (va_up (va_up (va_up (va_up ((fX5_canAsk I R x1 x2).2) 15 (fX5_nearest ((fX5_canAsk I R x1 x2).2) R x1)) 16 0) 17 0) 18 0) 25 0) R (fX5_nearest ((fX5_canAsk I R x1 x2).2) R x1) x2).2.2) (fX5_nearest ((fX5_canAsk I R x1 x2).2) R x1)).1) 22) + 0)) 23 ((((fX5_fetchHot ((fX5_resolve (va_up (va_up (va_up (va_up (va_up ((fX5_canAsk I R x1 x2).2) 15 (fX5_nearest ((fX5_canAsk I R x1 x2).2) R x1)) 16 0) 17 0) 18 0) 25 0) R (fX5_nearest ((fX5_canAsk I R x1 x2).2) R x1) x2).2.1) ((fX5_resolve (va_up (va_up (va_up (va_up (va_up ((fX5_canAsk I R x1 x2).2) 15 (fX5_nearest ((fX5_canAsk I R x1 x2).2) R x1)) 16 0) 17 0) 18 0) 25 0) R (fX5_nearest ((fX5_canAsk I R x1 x2).2) R x1) x2).2.2) (fX5_nearest ((fX5_canAsk I R x1 x2).2) R x1)).1) 23) + 0)), ((fX5_fetchHot ((fX5_resolve (va_up (va_up (va_up (va_up (va_up ((fX5_canAsk I R x1 x2).2) 15 (fX5_nearest ((fX5_canAsk I R x1 x2).2) R x1)) 16 0) 17 0) 18 0) 25 0) R (fX5_nearest ((fX5_canAsk I R x1 x2).2) R x1) x2).2.1) ((fX5_resolve (va_up (va_up (va_up (va_up (va_up ((fX5_canAsk I R x1 x2).2) 15 (fX5_nearest ((fX5_canAsk I R x1 x2).2) R x1)) 16 0) 17 0) 18 0) 25 0) R (fX5_nearest ((fX5_canAsk I R x1 x2).2) R x1) x2).2.2) (fX5_nearest ((fX5_canAsk I R x1 x2).2) R x1)).2)) := (if_neg c1).trans ((if_pos c2).trans (if_neg c3))
        exact z_ret1 B rfl dX5_query_109 () (trivial) (Nat.le_of_ble_eq_true rfl) (Nat.le_of_ble_eq_true rfl) (by rw [hF]) (by rw [hF])
    · refine z_iconst B (v := 1) dX5_query_77 rfl ?_
      refine z_goto B (tgt := 82) dX5_query_78 (by decide) ?_
      refine z_iadd B dX5_query_82 ?_
      refine z_put B 0 0 22 hiX5_query_5 hfX5_query_143 tyX5_ok nmX5 rfl rfl rfl (by decide) rfl rfl rfl rfl rfl rfl rfl (Nat.le_of_ble_eq_true rfl) (bs' := [zMo K am (va_up (va_up ((fX5_fetchHot ((fX5_resolve (va_up (va_up (va_up (va_up (va_up ((fX5_canAsk I R x1 x2).2) 15 (fX5_nearest ((fX5_canAsk I R x1 x2).2) R x1)) 16 0) 17 0) 18 0) 25 0) R (fX5_nearest ((fX5_canAsk I R x1 x2).2) R x1) x2).2.1) ((fX5_resolve (va_up (va_up (va_up (va_up (va_up ((fX5_canAsk I R x1 x2).2) 15 (fX5_nearest ((fX5_canAsk I R x1 x2).2) R x1)) 16 0) 17 0) 18 0) 25 0) R (fX5_nearest ((fX5_canAsk I R x1 x2).2) R x1) x2).2.2) (fX5_nearest ((fX5_canAsk I R x1 x2).2) R x1)).1) 19 ((((fX5_fetchHot ((fX5_resolve (va_up (va_up (va_up (va_up (va_up ((fX5_canAsk I R x1 x2).2) 15 (fX5_nearest ((fX5_canAsk I R x1 x2).2) R x1)) 16 0) 17 0) 18 0) 25 0) R (fX5_nearest ((fX5_canAsk I R x1 x2).2) R x1) x2).2.1) ((fX5_resolve (va_up (va_up (va_up (va_up (va_up ((fX5_canAsk I R x1 x2).2) 15 (fX5_nearest ((fX5_canAsk I R x1 x2).2) R x1)) 16 0) 17 0) 18 0) 25 0) R (fX5_nearest ((fX5_canAsk I R x1 x2).2) R x1) x2).2.2) (fX5_nearest ((fX5_canAsk I R x1 x2).2) R x1)).1) 19) + 1)) 22 ((((fX5_fetchHot ((fX5_resolve (va_up (va_up (va_up (va_up (va_up ((fX5_canAsk I R x1 x2).2) 15 (fX5_nearest ((fX5_canAsk I R x1 x2).2) R x1)) 16 0) 17 0) 18 0) 25 0) R (fX5_nearest ((fX5_canAsk I R x1 x2).2) R x1) x2).2.1) ((fX5_resolve (va_up (va_up (va_up (va_up (va_up ((fX5_canAsk I R x1 x2).2) 15 (fX5_nearest ((fX5_canAsk I R x1 x2).2) R x1)) 16 0) 17 0) 18 0) 25 0) R (fX5_nearest ((fX5_canAsk I R x1 x2).2) R x1) x2).2.2) (fX5_nearest ((fX5_canAsk I R x1 x2).2) R x1)).1) 22) + 1)) ((fX5_fetchHot ((fX5_resolve (va_up (va_up (va_up (va_up (va_up ((fX5_canAsk I R x1 x2).2) 15 (fX5_nearest ((fX5_canAsk I R x1 x2).2) R x1)) 16 0) 17 0) 18 0) 25 0) R (fX5_nearest ((fX5_canAsk I R x1 x2).2) R x1) x2).2.1) ((fX5_resolve (va_up (va_up (va_up (va_up (va_up ((fX5_canAsk I R x1 x2).2) 15 (fX5_nearest ((fX5_canAsk I R x1 x2).2) R x1)) 16 0) 17 0) 18 0) 25 0) R (fX5_nearest ((fX5_canAsk I R x1 x2).2) R x1) x2).2.2) (fX5_nearest ((fX5_canAsk I R x1 x2).2) R x1)).2)]) zMoI22 dX5_query_83 ?_
      refine z_aload_n B dX5_query_86 2 rfl ?_
      refine z_dup B dX5_query_87 rfl ?_
      refine z_get B (v := .int (((fX5_fetchHot ((fX5_resolve (va_up (va_up (va_up (va_up (va_up ((fX5_canAsk I R x1 x2).2) 15 (fX5_nearest ((fX5_canAsk I R x1 x2).2) R x1)) 16 0) 17 0) 18 0) 25 0) R (fX5_nearest ((fX5_canAsk I R x1 x2).2) R x1) x2).2.1) ((fX5_resolve (va_up (va_up (va_up (va_up (va_up ((fX5_canAsk I R x1 x2).2) 15 (fX5_nearest ((fX5_canAsk I R x1 x2).2) R x1)) 16 0) 17 0) 18 0) 25 0) R (fX5_nearest ((fX5_canAsk I R x1 x2).2) R x1) x2).2.2) (fX5_nearest ((fX5_canAsk I R x1 x2).2) R x1)).1) 23)) 0 0 23 hiX5_query_5 hfX5_query_146 rfl rfl rfl (by decide) rfl rfl rfl rfl dX5_query_88 ?_
      refine z_iload B dX5_query_91 0 rfl ?_
      refine z_bipush B (v := (-2)) dX5_query_93 rfl ?_
      refine z_icne B 102 dX5_query_95 (by decide) (fun c4 => ?_) (fun c4 => ?_)
      · refine z_iconst B (v := 1) dX5_query_98 rfl ?_
        refine z_goto B (tgt := 103) dX5_query_99 (by decide) ?_
        refine z_iadd B dX5_query_103 ?_
        refine z_put B 0 0 23 hiX5_query_5 hfX5_query_146 tyX5_ok nmX5 rfl rfl rfl (by decide) rfl rfl rfl rfl rfl rfl rfl (Nat.le_of_ble_eq_true rfl) (bs' := [zMo K am (va_up (va_up (va_up ((fX5_fetchHot ((fX5_resolve (va_up (va_up (va_up (va_up (va_up ((fX5_canAsk I R x1 x2).2) 15 (fX5_nearest ((fX5_canAsk I R x1 x2).2) R x1)) 16 0) 17 0) 18 0) 25 0) R (fX5_nearest ((fX5_canAsk I R x1 x2).2) R x1) x2).2.1) ((fX5_resolve (va_up (va_up (va_up (va_up (va_up ((fX5_canAsk I R x1 x2).2) 15 (fX5_nearest ((fX5_canAsk I R x1 x2).2) R x1)) 16 0) 17 0) 18 0) 25 0) R (fX5_nearest ((fX5_canAsk I R x1 x2).2) R x1) x2).2.2) (fX5_nearest ((fX5_canAsk I R x1 x2).2) R x1)).1) 19 ((((fX5_fetchHot ((fX5_resolve (va_up (va_up (va_up (va_up (va_up ((fX5_canAsk I R x1 x2).2) 15 (fX5_nearest ((fX5_canAsk I R x1 x2).2) R x1)) 16 0) 17 0) 18 0) 25 0) R (fX5_nearest ((fX5_canAsk I R x1 x2).2) R x1) x2).2.1) ((fX5_resolve (va_up (va_up (va_up (va_up (va_up ((fX5_canAsk I R x1 x2).2) 15 (fX5_nearest ((fX5_canAsk I R x1 x2).2) R x1)) 16 0) 17 0) 18 0) 25 0) R (fX5_nearest ((fX5_canAsk I R x1 x2).2) R x1) x2).2.2) (fX5_nearest ((fX5_canAsk I R x1 x2).2) R x1)).1) 19) + 1)) 22 ((((fX5_fetchHot ((fX5_resolve (va_up (va_up (va_up (va_up (va_up ((fX5_canAsk I R x1 x2).2) 15 (fX5_nearest ((fX5_canAsk I R x1 x2).2) R x1)) 16 0) 17 0) 18 0) 25 0) R (fX5_nearest ((fX5_canAsk I R x1 x2).2) R x1) x2).2.1) ((fX5_resolve (va_up (va_up (va_up (va_up (va_up ((fX5_canAsk I R x1 x2).2) 15 (fX5_nearest ((fX5_canAsk I R x1 x2).2) R x1)) 16 0) 17 0) 18 0) 25 0) R (fX5_nearest ((fX5_canAsk I R x1 x2).2) R x1) x2).2.2) (fX5_nearest ((fX5_canAsk I R x1 x2).2) R x1)).1) 22) + 1)) 23 ((((fX5_fetchHot ((fX5_resolve (va_up (va_up (va_up (va_up (va_up ((fX5_canAsk I R x1 x2).2) 15 (fX5_nearest ((fX5_canAsk I R x1 x2).2) R x1)) 16 0) 17 0) 18 0) 25 0) R (fX5_nearest ((fX5_canAsk I R x1 x2).2) R x1) x2).2.1) ((fX5_resolve (va_up (va_up (va_up (va_up (va_up ((fX5_canAsk I R x1 x2).2) 15 (fX5_nearest ((fX5_canAsk I R x1 x2).2) R x1)) 16 0) 17 0) 18 0) 25 0) R (fX5_nearest ((fX5_canAsk I R x1 x2).2) R x1) x2).2.2) (fX5_nearest ((fX5_canAsk I R x1 x2).2) R x1)).1) 23) + 1)) ((fX5_fetchHot ((fX5_resolve (va_up (va_up (va_up (va_up (va_up ((fX5_canAsk I R x1 x2).2) 15 (fX5_nearest ((fX5_canAsk I R x1 x2).2) R x1)) 16 0) 17 0) 18 0) 25 0) R (fX5_nearest ((fX5_canAsk I R x1 x2).2) R x1) x2).2.1) ((fX5_resolve (va_up (va_up (va_up (va_up (va_up ((fX5_canAsk I R x1 x2).2) 15 (fX5_nearest ((fX5_canAsk I R x1 x2).2) R x1)) 16 0) 17 0) 18 0) 25 0) R (fX5_nearest ((fX5_canAsk I R x1 x2).2) R x1) x2).2.2) (fX5_nearest ((fX5_canAsk I R x1 x2).2) R x1)).2)]) zMoI23 dX5_query_104 ?_
        refine z_iload B dX5_query_107 0 rfl ?_
        have hF : fX5_query I R x1 x2 = (((fX5_resolve (va_up (va_up (va_up (va_up (va_up ((fX5_canAsk I R x1 x2).2) 15 (fX5_nearest ((fX5_canAsk I R x1 x2).2) R x1)) 16 0) 17 0) 18 0) 25 0) R (fX5_nearest ((fX5_canAsk I R x1 x2).2) R x1) x2).1), (va_up (va_up (va_up ((fX5_fetchHot ((fX5_resolve (va_up (va_up (va_up (va_up (va_up ((fX5_canAsk I R x1 x2).2) 15 (fX5_nearest ((fX5_canAsk I R x1 x2).2) R x1)) 16 0) 17 0) 18 0) 25 0) R (fX5_nearest ((fX5_canAsk I R x1 x2).2) R x1) x2).2.1) ((fX5_resolve (va_up (va_up (va_up (va_up (va_up ((fX5_canAsk I R x1 x2).2) 15 (fX5_nearest ((fX5_canAsk I R x1 x2).2) R x1)) 16 0) 17 0) 18 0) 25 0) R (fX5_nearest ((fX5_canAsk I R x1 x2).2) R x1) x2).2.2) (fX5_nearest ((fX5_canAsk I R x1 x2).2) R x1)).1) 19 ((((fX5_fetchHot ((fX5_resolve (va_up (va_up (va_up (va_up (va_up ((fX5_canAsk I R x1 x2).2) 15 (fX5_nearest ((fX5_canAsk I R x1 x2).2) R x1)) 16 0) 17 0) 18 0) 25 0) R (fX5_nearest ((fX5_canAsk I R x1 x2).2) R x1) x2).2.1) ((fX5_resolve (va_up (va_up (va_up (va_up (va_up ((fX5_canAsk I R x1 x2).2) 15 (fX5_nearest ((fX5_canAsk I R x1 x2).2) R x1)) 16 0) 17 0) 18 0) 25 0) R (fX5_nearest ((fX5_canAsk I R x1 x2).2) R x1) x2).2.2) (fX5_nearest ((fX5_canAsk I R x1 x2).2) R x1)).1) 19) + 1)) 22 ((((fX5_fetchHot ((fX5_resolve (va_up (va_up (va_up (va_up (va_up ((fX5_canAsk I R x1 x2).2) 15 (fX5_nearest ((fX5_canAsk I R x1 x2).2) R x1)) 16 0) 17 0) 18 0) 25 0) R (fX5_nearest ((fX5_canAsk I R x1 x2).2) R x1) x2).2.1) ((fX5_resolve (va_up (va_up (va_up (va_up (va_up ((fX5_canAsk I R x1 x2).2) 15 (fX5_nearest ((fX5_canAsk I R x1 x2).2) R x1)) 16 0) 17 0) 18 0) 25 0) R (fX5_nearest ((fX5_canAsk I R x1 x2).2) R x1) x2).2.2) (fX5_nearest ((fX5_canAsk I R x1 x2).2) R x1)).1) 22) + 1)) 23 ((((fX5_fetchHot ((fX5_resolve (va_up (va_up (va_up (va_up (va_up ((fX5_canAsk I R x1 x2).2) 15 (fX5_nearest ((fX5_canAsk I R x1 x2).2) R x1)) 16 0) 17 0) 18 0) 25 0) R (fX5_nearest ((fX5_canAsk I R x1 x2).2) R x1) x2).2.1) ((fX5_resolve (va_up (va_up (va_up (va_up (va_up ((fX5_canAsk I R x1 x2).2) 15 (fX5_nearest ((fX5_canAsk I R x1 x2).2) R x1)) 16 0) 17 0) 18 0) 25 0) R (fX5_nearest ((fX5_canAsk I R x1 x2).2) R x1) x2).2.2) (fX5_nearest ((fX5_canAsk I R x1 x2).2) R x1)).1) 23) + 1)), ((fX5_fetchHot ((fX5_resolve (va_up (va_up (va_up (va_up (va_up ((fX5_canAsk I R x1 x2).2) 15 (fX5_nearest ((fX5_canAsk I R x1 x2).2) R x1)) 16 0) 17 0) 18 0) 25 0) R (fX5_nearest ((fX5_canAsk I R x1 x2).2) R x1) x2).2.1) ((fX5_resolve (va_up (va_up (va_up (va_up (va_up ((fX5_canAsk I R x1 x2).2) 15 (fX5_nearest ((fX5_canAsk I R x1 x2).2) R x1)) 16 0) 17 0) 18 0) 25 0) R (fX5_nearest ((fX5_canAsk I R x1 x2).2) R x1) x2).2.2) (fX5_nearest ((fX5_canAsk I R x1 x2).2) R x1)).2)) := (if_neg c1).trans ((if_neg c2).trans (if_pos c4))
        exact z_ret1 B rfl dX5_query_109 () (trivial) (Nat.le_of_ble_eq_true rfl) (Nat.le_of_ble_eq_true rfl) (by rw [hF]) (by rw [hF])
      · refine z_iconst B (v := 0) dX5_query_102 rfl ?_
        refine z_iadd B dX5_query_103 ?_
        refine z_put B 0 0 23 hiX5_query_5 hfX5_query_146 tyX5_ok nmX5 rfl rfl rfl (by decide) rfl rfl rfl rfl rfl rfl rfl (Nat.le_of_ble_eq_true rfl) (bs' := [zMo K am (va_up (va_up (va_up ((fX5_fetchHot ((fX5_resolve (va_up (va_up (va_up (va_up (va_up ((fX5_canAsk I R x1 x2).2) 15 (fX5_nearest ((fX5_canAsk I R x1 x2).2) R x1)) 16 0) 17 0) 18 0) 25 0) R (fX5_nearest ((fX5_canAsk I R x1 x2).2) R x1) x2).2.1) ((fX5_resolve (va_up (va_up (va_up (va_up (va_up ((fX5_canAsk I R x1 x2).2) 15 (fX5_nearest ((fX5_canAsk I R x1 x2).2) R x1)) 16 0) 17 0) 18 0) 25 0) R (fX5_nearest ((fX5_canAsk I R x1 x2).2) R x1) x2).2.2) (fX5_nearest ((fX5_canAsk I R x1 x2).2) R x1)).1) 19 ((((fX5_fetchHot ((fX5_resolve (va_up (va_up (va_up (va_up (va_up ((fX5_canAsk I R x1 x2).2) 15 (fX5_nearest ((fX5_canAsk I R x1 x2).2) R x1)) 16 0) 17 0) 18 0) 25 0) R (fX5_nearest ((fX5_canAsk I R x1 x2).2) R x1) x2).2.1) ((fX5_resolve (va_up (va_up (va_up (va_up (va_up ((fX5_canAsk I R x1 x2).2) 15 (fX5_nearest ((fX5_canAsk I R x1 x2).2) R x1)) 16 0) 17 0) 18 0) 25 0) R (fX5_nearest ((fX5_canAsk I R x1 x2).2) R x1) x2).2.2) (fX5_nearest ((fX5_canAsk I R x1 x2).2) R x1)).1) 19) + 1)) 22 ((((fX5_fetchHot ((fX5_resolve (va_up (va_up (va_up (va_up (va_up ((fX5_canAsk I R x1 x2).2) 15 (fX5_nearest ((fX5_canAsk I R x1 x2).2) R x1)) 16 0) 17 0) 18 0) 25 0) R (fX5_nearest ((fX5_canAsk I R x1 x2).2) R x1) x2).2.1) ((fX5_resolve (va_up (va_up (va_up (va_up (va_up ((fX5_canAsk I R x1 x2).2) 15 (fX5_nearest ((fX5_canAsk I R x1 x2).2) R x1)) 16 0) 17 0) 18 0) 25 0) R (fX5_nearest ((fX5_canAsk I R x1 x2).2) R x1) x2).2.2) (fX5_nearest ((fX5_canAsk I R x1 x2).2) R x1)).1) 22) + 1)) 23 ((((fX5_fetchHot ((fX5_resolve (va_up (va_up (va_up (va_up (va_up ((fX5_canAsk I R x1 x2).2) 15 (fX5_nearest ((fX5_canAsk I R x1 x2).2) R x1)) 16 0) 17 0) 18 0) 25 0) R (fX5_nearest ((fX5_canAsk I R x1 x2).2) R x1) x2).2.1) ((fX5_resolve (va_up (va_up (va_up (va_up (va_up ((fX5_canAsk I R x1 x2).2) 15 (fX5_nearest ((fX5_canAsk I R x1 x2).2) R x1)) 16 0) 17 0) 18 0) 25 0) R (fX5_nearest ((fX5_canAsk I R x1 x2).2) R x1) x2).2.2) (fX5_nearest ((fX5_canAsk I R x1 x2).2) R x1)).1) 23) + 0)) ((fX5_fetchHot ((fX5_resolve (va_up (va_up (va_up (va_up (va_up ((fX5_canAsk I R x1 x2).2) 15 (fX5_nearest ((fX5_canAsk I R x1 x2).2) R x1)) 16 0) 17 0) 18 0) 25 0) R (fX5_nearest ((fX5_canAsk I R x1 x2).2) R x1) x2).2.1) ((fX5_resolve (va_up (va_up (va_up (va_up (va_up ((fX5_canAsk I R x1 x2).2) 15 (fX5_nearest ((fX5_canAsk I R x1 x2).2) R x1)) 16 0) 17 0) 18 0) 25 0) R (fX5_nearest ((fX5_canAsk I R x1 x2).2) R x1) x2).2.2) (fX5_nearest ((fX5_canAsk I R x1 x2).2) R x1)).2)]) zMoI23 dX5_query_104 ?_
        refine z_iload B dX5_query_107 0 rfl ?_
        have hF : fX5_query I R x1 x2 = (((fX5_resolve (va_up (va_up (va_up (va_up (va_up ((fX5_canAsk I R x1 x2).2) 15 (fX5_nearest ((fX5_canAsk I R x1 x2).2) R x1)) 16 0) 17 0) 18 0) 25 0) R (fX5_nearest ((fX5_canAsk I R x1 x2).2) R x1) x2).1), (va_up (va_up (va_up ((fX5_fetchHot ((fX5_resolve (va_up (va_up (va_up (va_up (va_up ((fX5_canAsk I R x1 x2).2) 15 (fX5_nearest ((fX5_canAsk I R x1 x2).2) R x1)) 16 0) 17 0) 18 0) 25 0) R (fX5_nearest ((fX5_canAsk I R x1 x2).2) R x1) x2).2.1) ((fX5_resolve (va_up (va_up (va_up (va_up (va_up ((fX5_canAsk I R x1 x2).2) 15 (fX5_nearest ((fX5_canAsk I R x1 x2).2) R x1)) 16 0) 17 0) 18 0) 25 0) R (fX5_nearest ((fX5_canAsk I R x1 x2).2) R x1) x2).2.2) (fX5_nearest ((fX5_canAsk I R x1 x2).2) R x1)).1) 19 ((((fX5_fetchHot ((fX5_resolve (va_up (va_up (va_up (va_up (va_up ((fX5_canAsk I R x1 x2).2) 15 (fX5_nearest ((fX5_canAsk I R x1 x2).2) R x1)) 16 0) 17 0) 18 0) 25 0) R (fX5_nearest ((fX5_canAsk I R x1 x2).2) R x1) x2).2.1) ((fX5_resolve (va_up (va_up (va_up (va_up (va_up ((fX5_canAsk I R x1 x2).2) 15 (fX5_nearest ((fX5_canAsk I R x1 x2).2) R x1)) 16 0) 17 0) 18 0) 25 0) R (fX5_nearest ((fX5_canAsk I R x1 x2).2) R x1) x2).2.2) (fX5_nearest ((fX5_canAsk I R x1 x2).2) R x1)).1) 19) + 1)) 22 ((((fX5_fetchHot ((fX5_resolve (va_up (va_up (va_up (va_up (va_up ((fX5_canAsk I R x1 x2).2) 15 (fX5_nearest ((fX5_canAsk I R x1 x2).2) R x1)) 16 0) 17 0) 18 0) 25 0) R (fX5_nearest ((fX5_canAsk I R x1 x2).2) R x1) x2).2.1) ((fX5_resolve (va_up (va_up (va_up (va_up (va_up ((fX5_canAsk I R x1 x2).2) 15 (fX5_nearest ((fX5_canAsk I R x1 x2).2) R x1)) 16 0) 17 0) 18 0) 25 0) R (fX5_nearest ((fX5_canAsk I R x1 x2).2) R x1) x2).2.2) (fX5_nearest ((fX5_canAsk I R x1 x2).2) R x1)).1) 22) + 1)) 23 ((((fX5_fetchHot ((fX5_resolve (va_up (va_up (va_up (va_up (va_up ((fX5_canAsk I R x1 x2).2) 15 (fX5_nearest ((fX5_canAsk I R x1 x2).2) R x1)) 16 0) 17 0) 18 0) 25 0) R (fX5_nearest ((fX5_canAsk I R x1 x2).2) R x1) x2).2.1) ((fX5_resolve (va_up (va_up (va_up (va_up (va_up ((fX5_canAsk I R x1 x2).2) 15 (fX5_nearest ((fX5_canAsk I R x1 x2).2) R x1)) 16 0) 17 0) 18 0) 25 0) R (fX5_nearest ((fX5_canAsk I R x1 x2).2) R x1) x2).2.2) (fX5_nearest ((fX5_canAsk I R x1 x2).2) R x1)).1) 23) + 0)), ((fX5_fetchHot ((fX5_resolve (va_up (va_up (va_up (va_up (va_up ((fX5_canAsk I R x1 x2).2) 15 (fX5_nearest ((fX5_canAsk I R x1 x2).2) R x1)) 16 0) 17 0) 18 0) 25 0) R (fX5_nearest ((fX5_canAsk I R x1 x2).2) R x1) x2).2.1) ((fX5_resolve (va_up (va_up (va_up (va_up (va_up ((fX5_canAsk I R x1 x2).2) 15 (fX5_nearest ((fX5_canAsk I R x1 x2).2) R x1)) 16 0) 17 0) 18 0) 25 0) R (fX5_nearest ((fX5_canAsk I R x1 x2).2) R x1) x2).2.2) (fX5_nearest ((fX5_canAsk I R x1 x2).2) R x1)).2)) := (if_neg c1).trans ((if_neg c2).trans (if_neg c4))
        exact z_ret1 B rfl dX5_query_109 () (trivial) (Nat.le_of_ble_eq_true rfl) (Nat.le_of_ble_eq_true rfl) (by rw [hF]) (by rw [hF])
def fX5_wouldAnswer_L168 (I : Nat → Int32) (R : Nat → Nat → Int32) (x1 : Int32) (x2 : Int32) : Nat → Nat → (Int32) → (Nat → Int32) → (Nat → Nat → Int32) → Int32 × (Nat → Int32) × (Nat → Nat → Int32)
  | 0, a, ans, I2, R2 =>
    (ans, (va_up (va_up (va_up (va_up I2 16 (((fX5_canAsk I R x1 x2).2) 16)) 17 (((fX5_canAsk I R x1 x2).2) 17)) 18 (((fX5_canAsk I R x1 x2).2) 18)) 20 (((fX5_canAsk I R x1 x2).2) 20)), R2)
  | n + 1, a, ans, I2, R2 =>
    fX5_wouldAnswer_L168 I R x1 x2 n (a + 1) ans I2 (va_up (va_up (va_up (va_up (va_up R2 6 (upd (R2 6) ((16 * (fX5_nearest ((fX5_canAsk I R x1 x2).2) R x1)) + nI a).toNatClampNeg ((R2 12) (nI a).toNatClampNeg))) 7 (upd (R2 7) ((16 * (fX5_nearest ((fX5_canAsk I R x1 x2).2) R x1)) + nI a).toNatClampNeg ((R2 13) (nI a).toNatClampNeg))) 8 (upd (R2 8) ((16 * (fX5_nearest ((fX5_canAsk I R x1 x2).2) R x1)) + nI a).toNatClampNeg ((R2 14) (nI a).toNatClampNeg))) 9 (upd (R2 9) ((16 * (fX5_nearest ((fX5_canAsk I R x1 x2).2) R x1)) + nI a).toNatClampNeg ((R2 15) (nI a).toNatClampNeg))) 10 (upd (R2 10) ((16 * (fX5_nearest ((fX5_canAsk I R x1 x2).2) R x1)) + nI a).toNatClampNeg ((R2 16) (nI a).toNatClampNeg)))
def fX5_wouldAnswer_L44 (I : Nat → Int32) (R : Nat → Nat → Int32) (x1 : Int32) (x2 : Int32) : Nat → Nat → (Nat → Nat → Int32) → Int32 × (Nat → Int32) × (Nat → Nat → Int32)
  | 0, a, R1 =>
    fX5_wouldAnswer_L168 I R x1 x2 16 0 ((fX5_resolve (va_up ((fX5_canAsk I R x1 x2).2) 25 0) R1 (fX5_nearest ((fX5_canAsk I R x1 x2).2) R x1) x2).1) ((fX5_resolve (va_up ((fX5_canAsk I R x1 x2).2) 25 0) R1 (fX5_nearest ((fX5_canAsk I R x1 x2).2) R x1) x2).2.1) ((fX5_resolve (va_up ((fX5_canAsk I R x1 x2).2) 25 0) R1 (fX5_nearest ((fX5_canAsk I R x1 x2).2) R x1) x2).2.2)
  | n + 1, a, R1 =>
    fX5_wouldAnswer_L44 I R x1 x2 n (a + 1) (va_up (va_up (va_up (va_up (va_up R1 12 (upd (R1 12) (nI a).toNatClampNeg ((R1 6) ((16 * (fX5_nearest ((fX5_canAsk I R x1 x2).2) R x1)) + nI a).toNatClampNeg))) 13 (upd (R1 13) (nI a).toNatClampNeg ((R1 7) ((16 * (fX5_nearest ((fX5_canAsk I R x1 x2).2) R x1)) + nI a).toNatClampNeg))) 14 (upd (R1 14) (nI a).toNatClampNeg ((R1 8) ((16 * (fX5_nearest ((fX5_canAsk I R x1 x2).2) R x1)) + nI a).toNatClampNeg))) 15 (upd (R1 15) (nI a).toNatClampNeg ((R1 9) ((16 * (fX5_nearest ((fX5_canAsk I R x1 x2).2) R x1)) + nI a).toNatClampNeg))) 16 (upd (R1 16) (nI a).toNatClampNeg ((R1 10) ((16 * (fX5_nearest ((fX5_canAsk I R x1 x2).2) R x1)) + nI a).toNatClampNeg)))
def fX5_wouldAnswer (I : Nat → Int32) (R : Nat → Nat → Int32) (x1 : Int32) (x2 : Int32) : Int32 × (Nat → Int32) × (Nat → Nat → Int32) :=
  if ((fX5_canAsk I R x1 x2).1) = 0 then
    (0, ((fX5_canAsk I R x1 x2).2), R)
  else
    fX5_wouldAnswer_L44 I R x1 x2 16 0 R
theorem hiX5_wouldAnswer_5 : ∀ w ∈ wsX50, w ∈ wsX5_wouldAnswer := by decide +kernel
theorem hfX5_wouldAnswer_121 : Cond.fieldLink RX5 121 "ResolverFleetModel" "lastStale" "Z" ∈ wsX5_wouldAnswer := by decide +kernel
theorem hfX5_wouldAnswer_111 : Cond.fieldLink RX5 111 "ResolverFleetModel" "lastMany" "I" ∈ wsX5_wouldAnswer := by decide +kernel
theorem hfX5_wouldAnswer_108 : Cond.fieldLink RX5 108 "ResolverFleetModel" "lastFetched" "I" ∈ wsX5_wouldAnswer := by decide +kernel
theorem hfX5_wouldAnswer_105 : Cond.fieldLink RX5 105 "ResolverFleetModel" "fetchMany" "I" ∈ wsX5_wouldAnswer := by decide +kernel
theorem hfX5_wouldAnswer_114 : Cond.fieldLink RX5 114 "ResolverFleetModel" "freshMany" "I" ∈ wsX5_wouldAnswer := by decide +kernel
theorem hfX5_wouldAnswer_44 : Cond.fieldLink RX5 44 "ResolverFleetModel" "keptTold" "[I" ∈ wsX5_wouldAnswer := by decide +kernel
theorem hfX5_wouldAnswer_26 : Cond.fieldLink RX5 26 "ResolverFleetModel" "told" "[I" ∈ wsX5_wouldAnswer := by decide +kernel
theorem hfX5_wouldAnswer_47 : Cond.fieldLink RX5 47 "ResolverFleetModel" "keptTells" "[I" ∈ wsX5_wouldAnswer := by decide +kernel
theorem hfX5_wouldAnswer_29 : Cond.fieldLink RX5 29 "ResolverFleetModel" "tells" "[I" ∈ wsX5_wouldAnswer := by decide +kernel
theorem hfX5_wouldAnswer_50 : Cond.fieldLink RX5 50 "ResolverFleetModel" "keptLife" "[I" ∈ wsX5_wouldAnswer := by decide +kernel
theorem hfX5_wouldAnswer_32 : Cond.fieldLink RX5 32 "ResolverFleetModel" "lifeOf" "[I" ∈ wsX5_wouldAnswer := by decide +kernel
theorem hfX5_wouldAnswer_53 : Cond.fieldLink RX5 53 "ResolverFleetModel" "keptEnds" "[I" ∈ wsX5_wouldAnswer := by decide +kernel
theorem hfX5_wouldAnswer_35 : Cond.fieldLink RX5 35 "ResolverFleetModel" "ends" "[I" ∈ wsX5_wouldAnswer := by decide +kernel
theorem hfX5_wouldAnswer_56 : Cond.fieldLink RX5 56 "ResolverFleetModel" "keptHits" "[I" ∈ wsX5_wouldAnswer := by decide +kernel
theorem hfX5_wouldAnswer_38 : Cond.fieldLink RX5 38 "ResolverFleetModel" "hits" "[I" ∈ wsX5_wouldAnswer := by decide +kernel
set_option maxHeartbeats 4000000 in
set_option maxRecDepth 100000 in
theorem kX5_wouldAnswer_L168 (l : Launch) (hl : l.stackTraces = false) (K : zK) (am : Nat → Nat) (I : Nat → Int32) (R : Nat → Nat → Int32) (x1 : Int32) (x2 : Int32) (h5 : ¬ (I 5) < 0) (h6 : (I 5).toNatClampNeg ≤ 4) (hZ : zwZ R) (hC : zwC R) (h16 : (I 16) = 0 ∨ (I 16) = 1) {p : Program} {e : Env} {s : State} {m : MethodId} {args : Array Value} {below : List Frame} {meth : Method} {c : Code} {A : Nat → Prop} (B : zF K p l s m args meth c A cX5_wouldAnswer 10 RX5 "wouldAnswer" wsX5_wouldAnswer (some .int) []) : ∀ (n a : Nat) (ans : Int32) (I2 : Nat → Int32) (R2 : Nat → Nat → Int32), a + n = 16 → (¬ ((fX5_canAsk I R x1 x2).1) = 0) → fX5_wouldAnswer I R x1 x2 = fX5_wouldAnswer_L168 I R x1 x2 n a ans I2 R2 → zW K p l e { frames := 4, cells := 0, slots := 0, locals := 95 } s m args below meth c A (vx_MQ below (zQ K A (fun _ : Unit => ((some (.int ((fX5_wouldAnswer I R x1 x2).1))), [zMo K am ((fX5_wouldAnswer I R x1 x2).2.1) ((fX5_wouldAnswer I R x1 x2).2.2)])) (fun _ => True)) (zX K A [zMo K am I R] zNo) args s 0 0 A) 0 0 [zMo K am I2 R2] [(0, .ref (am 0)), (1, .int x1), (2, .int x2), (3, .int (fX5_nearest ((fX5_canAsk I R x1 x2).2) R x1)), (4, .int (((fX5_canAsk I R x1 x2).2) 16)), (5, .int (((fX5_canAsk I R x1 x2).2) 17)), (6, .int (((fX5_canAsk I R x1 x2).2) 18)), (7, .int (((fX5_canAsk I R x1 x2).2) 20)), (8, .int ans), (9, .int (nI a))] [] 168 := by
  intro n
  induction n with
  | zero =>
    intro a ans I2 R2 ha hA hF0
    refine z_iload B dX5_wouldAnswer_168 9 rfl ?_
    refine z_bipush B (v := 16) dX5_wouldAnswer_170 rfl ?_
    refine z_icge B 276 dX5_wouldAnswer_172 (by decide) (fun _ => ?_) (fun h => absurd (z_lge0 ha (by decide)) h)
    refine z_aload_n B dX5_wouldAnswer_276 0 rfl ?_
    refine z_iload B dX5_wouldAnswer_277 4 rfl ?_
    refine z_put B 0 0 16 hiX5_wouldAnswer_5 hfX5_wouldAnswer_121 tyX5_ok nmX5 rfl rfl rfl (by decide) rfl rfl rfl rfl rfl (z_nz (by rw [z_caI (by decide)]; exact h16)) (z_fz (by rw [z_caI (by decide)]; exact h16)) (Nat.le_of_ble_eq_true rfl) (bs' := [zMo K am (va_up I2 16 (((fX5_canAsk I R x1 x2).2) 16)) R2]) zMoI16 dX5_wouldAnswer_279 ?_
    refine z_aload_n B dX5_wouldAnswer_282 0 rfl ?_
    refine z_iload B dX5_wouldAnswer_283 5 rfl ?_
    refine z_put B 0 0 17 hiX5_wouldAnswer_5 hfX5_wouldAnswer_111 tyX5_ok nmX5 rfl rfl rfl (by decide) rfl rfl rfl rfl rfl rfl rfl (Nat.le_of_ble_eq_true rfl) (bs' := [zMo K am (va_up (va_up I2 16 (((fX5_canAsk I R x1 x2).2) 16)) 17 (((fX5_canAsk I R x1 x2).2) 17)) R2]) zMoI17 dX5_wouldAnswer_285 ?_
    refine z_aload_n B dX5_wouldAnswer_288 0 rfl ?_
    refine z_iload B dX5_wouldAnswer_289 6 rfl ?_
    refine z_put B 0 0 18 hiX5_wouldAnswer_5 hfX5_wouldAnswer_108 tyX5_ok nmX5 rfl rfl rfl (by decide) rfl rfl rfl rfl rfl rfl rfl (Nat.le_of_ble_eq_true rfl) (bs' := [zMo K am (va_up (va_up (va_up I2 16 (((fX5_canAsk I R x1 x2).2) 16)) 17 (((fX5_canAsk I R x1 x2).2) 17)) 18 (((fX5_canAsk I R x1 x2).2) 18)) R2]) zMoI18 dX5_wouldAnswer_291 ?_
    refine z_aload_n B dX5_wouldAnswer_294 0 rfl ?_
    refine z_iload B dX5_wouldAnswer_295 7 rfl ?_
    refine z_put B 0 0 20 hiX5_wouldAnswer_5 hfX5_wouldAnswer_105 tyX5_ok nmX5 rfl rfl rfl (by decide) rfl rfl rfl rfl rfl rfl rfl (Nat.le_of_ble_eq_true rfl) (bs' := [zMo K am (va_up (va_up (va_up (va_up I2 16 (((fX5_canAsk I R x1 x2).2) 16)) 17 (((fX5_canAsk I R x1 x2).2) 17)) 18 (((fX5_canAsk I R x1 x2).2) 18)) 20 (((fX5_canAsk I R x1 x2).2) 20)) R2]) zMoI20 dX5_wouldAnswer_297 ?_
    refine z_iload B dX5_wouldAnswer_300 8 rfl ?_
    have hF : fX5_wouldAnswer I R x1 x2 = (ans, (va_up (va_up (va_up (va_up I2 16 (((fX5_canAsk I R x1 x2).2) 16)) 17 (((fX5_canAsk I R x1 x2).2) 17)) 18 (((fX5_canAsk I R x1 x2).2) 18)) 20 (((fX5_canAsk I R x1 x2).2) 20)), R2) := hF0
    exact z_ret1 B rfl dX5_wouldAnswer_302 () (trivial) (Nat.le_of_ble_eq_true rfl) (Nat.le_of_ble_eq_true rfl) (by rw [hF]) (by rw [hF])
  | succ n ih =>
    intro a ans I2 R2 ha hA hF0
    refine z_iload B dX5_wouldAnswer_168 9 rfl ?_
    refine z_bipush B (v := 16) dX5_wouldAnswer_170 rfl ?_
    refine z_icge B 276 dX5_wouldAnswer_172 (by decide) (fun h => absurd h (z_lgeS ha (by decide))) (fun _ => ?_)
    refine z_aload_n B dX5_wouldAnswer_175 0 rfl ?_
    refine z_get B (v := .ref (am 6)) 0 0 10 hiX5_wouldAnswer_5 hfX5_wouldAnswer_26 rfl rfl rfl (by decide) rfl rfl rfl rfl dX5_wouldAnswer_176 ?_
    refine z_bipush B (v := 16) dX5_wouldAnswer_179 rfl ?_
    refine z_iload_n B dX5_wouldAnswer_181 3 rfl ?_
    refine z_imul B dX5_wouldAnswer_182 ?_
    refine z_iload B dX5_wouldAnswer_183 9 rfl ?_
    refine z_iadd B dX5_wouldAnswer_185 ?_
    refine z_aload_n B dX5_wouldAnswer_186 0 rfl ?_
    refine z_get B (v := .ref (am 12)) 0 0 26 hiX5_wouldAnswer_5 hfX5_wouldAnswer_44 rfl rfl rfl (by decide) rfl rfl rfl rfl dX5_wouldAnswer_187 ?_
    refine z_iload B dX5_wouldAnswer_190 9 rfl ?_
    refine z_iald B (N := 16) (f := (R2 12)) 0 12 rfl rfl (z_nIr (by omega) (by decide)) dX5_wouldAnswer_192 ?_
    refine z_iast B (N := 64) (f := (R2 6)) 0 6 rfl rfl (z_ixn (z_caS h5 h6 hA).1 (z_nIr (by omega) (by decide))) (bs' := [zMo K am I2 (va_up R2 6 (upd (R2 6) ((16 * (fX5_nearest ((fX5_canAsk I R x1 x2).2) R x1)) + nI a).toNatClampNeg ((R2 12) (nI a).toNatClampNeg)))]) zMoR6 dX5_wouldAnswer_193 ?_
    refine z_aload_n B dX5_wouldAnswer_194 0 rfl ?_
    refine z_get B (v := .ref (am 7)) 0 0 11 hiX5_wouldAnswer_5 hfX5_wouldAnswer_29 rfl rfl rfl (by decide) rfl rfl rfl rfl dX5_wouldAnswer_195 ?_
    refine z_bipush B (v := 16) dX5_wouldAnswer_198 rfl ?_
    refine z_iload_n B dX5_wouldAnswer_200 3 rfl ?_
    refine z_imul B dX5_wouldAnswer_201 ?_
    refine z_iload B dX5_wouldAnswer_202 9 rfl ?_
    refine z_iadd B dX5_wouldAnswer_204 ?_
    refine z_aload_n B dX5_wouldAnswer_205 0 rfl ?_
    refine z_get B (v := .ref (am 13)) 0 0 27 hiX5_wouldAnswer_5 hfX5_wouldAnswer_47 rfl rfl rfl (by decide) rfl rfl rfl rfl dX5_wouldAnswer_206 ?_
    refine z_iload B dX5_wouldAnswer_209 9 rfl ?_
    refine z_iald B (N := 16) (f := (R2 13)) 0 13 rfl rfl (z_nIr (by omega) (by decide)) dX5_wouldAnswer_211 ?_
    refine z_iast B (N := 64) (f := (R2 7)) 0 7 rfl rfl (z_ixn (z_caS h5 h6 hA).1 (z_nIr (by omega) (by decide))) (bs' := [zMo K am I2 (va_up (va_up R2 6 (upd (R2 6) ((16 * (fX5_nearest ((fX5_canAsk I R x1 x2).2) R x1)) + nI a).toNatClampNeg ((R2 12) (nI a).toNatClampNeg))) 7 (upd (R2 7) ((16 * (fX5_nearest ((fX5_canAsk I R x1 x2).2) R x1)) + nI a).toNatClampNeg ((R2 13) (nI a).toNatClampNeg)))]) zMoR7 dX5_wouldAnswer_212 ?_
    refine z_aload_n B dX5_wouldAnswer_213 0 rfl ?_
    refine z_get B (v := .ref (am 8)) 0 0 12 hiX5_wouldAnswer_5 hfX5_wouldAnswer_32 rfl rfl rfl (by decide) rfl rfl rfl rfl dX5_wouldAnswer_214 ?_
    refine z_bipush B (v := 16) dX5_wouldAnswer_217 rfl ?_
    refine z_iload_n B dX5_wouldAnswer_219 3 rfl ?_
    refine z_imul B dX5_wouldAnswer_220 ?_
    refine z_iload B dX5_wouldAnswer_221 9 rfl ?_
    refine z_iadd B dX5_wouldAnswer_223 ?_
    refine z_aload_n B dX5_wouldAnswer_224 0 rfl ?_
    refine z_get B (v := .ref (am 14)) 0 0 28 hiX5_wouldAnswer_5 hfX5_wouldAnswer_50 rfl rfl rfl (by decide) rfl rfl rfl rfl dX5_wouldAnswer_225 ?_
    refine z_iload B dX5_wouldAnswer_228 9 rfl ?_
    refine z_iald B (N := 16) (f := (R2 14)) 0 14 rfl rfl (z_nIr (by omega) (by decide)) dX5_wouldAnswer_230 ?_
    refine z_iast B (N := 64) (f := (R2 8)) 0 8 rfl rfl (z_ixn (z_caS h5 h6 hA).1 (z_nIr (by omega) (by decide))) (bs' := [zMo K am I2 (va_up (va_up (va_up R2 6 (upd (R2 6) ((16 * (fX5_nearest ((fX5_canAsk I R x1 x2).2) R x1)) + nI a).toNatClampNeg ((R2 12) (nI a).toNatClampNeg))) 7 (upd (R2 7) ((16 * (fX5_nearest ((fX5_canAsk I R x1 x2).2) R x1)) + nI a).toNatClampNeg ((R2 13) (nI a).toNatClampNeg))) 8 (upd (R2 8) ((16 * (fX5_nearest ((fX5_canAsk I R x1 x2).2) R x1)) + nI a).toNatClampNeg ((R2 14) (nI a).toNatClampNeg)))]) zMoR8 dX5_wouldAnswer_231 ?_
    refine z_aload_n B dX5_wouldAnswer_232 0 rfl ?_
    refine z_get B (v := .ref (am 9)) 0 0 13 hiX5_wouldAnswer_5 hfX5_wouldAnswer_35 rfl rfl rfl (by decide) rfl rfl rfl rfl dX5_wouldAnswer_233 ?_
    refine z_bipush B (v := 16) dX5_wouldAnswer_236 rfl ?_
    refine z_iload_n B dX5_wouldAnswer_238 3 rfl ?_
    refine z_imul B dX5_wouldAnswer_239 ?_
    refine z_iload B dX5_wouldAnswer_240 9 rfl ?_
    refine z_iadd B dX5_wouldAnswer_242 ?_
    refine z_aload_n B dX5_wouldAnswer_243 0 rfl ?_
    refine z_get B (v := .ref (am 15)) 0 0 29 hiX5_wouldAnswer_5 hfX5_wouldAnswer_53 rfl rfl rfl (by decide) rfl rfl rfl rfl dX5_wouldAnswer_244 ?_
    refine z_iload B dX5_wouldAnswer_247 9 rfl ?_
    refine z_iald B (N := 16) (f := (R2 15)) 0 15 rfl rfl (z_nIr (by omega) (by decide)) dX5_wouldAnswer_249 ?_
    refine z_iast B (N := 64) (f := (R2 9)) 0 9 rfl rfl (z_ixn (z_caS h5 h6 hA).1 (z_nIr (by omega) (by decide))) (bs' := [zMo K am I2 (va_up (va_up (va_up (va_up R2 6 (upd (R2 6) ((16 * (fX5_nearest ((fX5_canAsk I R x1 x2).2) R x1)) + nI a).toNatClampNeg ((R2 12) (nI a).toNatClampNeg))) 7 (upd (R2 7) ((16 * (fX5_nearest ((fX5_canAsk I R x1 x2).2) R x1)) + nI a).toNatClampNeg ((R2 13) (nI a).toNatClampNeg))) 8 (upd (R2 8) ((16 * (fX5_nearest ((fX5_canAsk I R x1 x2).2) R x1)) + nI a).toNatClampNeg ((R2 14) (nI a).toNatClampNeg))) 9 (upd (R2 9) ((16 * (fX5_nearest ((fX5_canAsk I R x1 x2).2) R x1)) + nI a).toNatClampNeg ((R2 15) (nI a).toNatClampNeg)))]) zMoR9 dX5_wouldAnswer_250 ?_
    refine z_aload_n B dX5_wouldAnswer_251 0 rfl ?_
    refine z_get B (v := .ref (am 10)) 0 0 14 hiX5_wouldAnswer_5 hfX5_wouldAnswer_38 rfl rfl rfl (by decide) rfl rfl rfl rfl dX5_wouldAnswer_252 ?_
    refine z_bipush B (v := 16) dX5_wouldAnswer_255 rfl ?_
    refine z_iload_n B dX5_wouldAnswer_257 3 rfl ?_
    refine z_imul B dX5_wouldAnswer_258 ?_
    refine z_iload B dX5_wouldAnswer_259 9 rfl ?_
    refine z_iadd B dX5_wouldAnswer_261 ?_
    refine z_aload_n B dX5_wouldAnswer_262 0 rfl ?_
    refine z_get B (v := .ref (am 16)) 0 0 30 hiX5_wouldAnswer_5 hfX5_wouldAnswer_56 rfl rfl rfl (by decide) rfl rfl rfl rfl dX5_wouldAnswer_263 ?_
    refine z_iload B dX5_wouldAnswer_266 9 rfl ?_
    refine z_iald B (N := 16) (f := (R2 16)) 0 16 rfl rfl (z_nIr (by omega) (by decide)) dX5_wouldAnswer_268 ?_
    refine z_iast B (N := 64) (f := (R2 10)) 0 10 rfl rfl (z_ixn (z_caS h5 h6 hA).1 (z_nIr (by omega) (by decide))) (bs' := [zMo K am I2 (va_up (va_up (va_up (va_up (va_up R2 6 (upd (R2 6) ((16 * (fX5_nearest ((fX5_canAsk I R x1 x2).2) R x1)) + nI a).toNatClampNeg ((R2 12) (nI a).toNatClampNeg))) 7 (upd (R2 7) ((16 * (fX5_nearest ((fX5_canAsk I R x1 x2).2) R x1)) + nI a).toNatClampNeg ((R2 13) (nI a).toNatClampNeg))) 8 (upd (R2 8) ((16 * (fX5_nearest ((fX5_canAsk I R x1 x2).2) R x1)) + nI a).toNatClampNeg ((R2 14) (nI a).toNatClampNeg))) 9 (upd (R2 9) ((16 * (fX5_nearest ((fX5_canAsk I R x1 x2).2) R x1)) + nI a).toNatClampNeg ((R2 15) (nI a).toNatClampNeg))) 10 (upd (R2 10) ((16 * (fX5_nearest ((fX5_canAsk I R x1 x2).2) R x1)) + nI a).toNatClampNeg ((R2 16) (nI a).toNatClampNeg)))]) zMoR10 dX5_wouldAnswer_269 ?_
    refine z_iinc B (v := nI (a + 1)) (lv' := [(9, .int (nI (a + 1))), (0, .ref (am 0)), (1, .int x1), (2, .int x2), (3, .int (fX5_nearest ((fX5_canAsk I R x1 x2).2) R x1)), (4, .int (((fX5_canAsk I R x1 x2).2) 16)), (5, .int (((fX5_canAsk I R x1 x2).2) 17)), (6, .int (((fX5_canAsk I R x1 x2).2) 18)), (7, .int (((fX5_canAsk I R x1 x2).2) 20)), (8, .int ans)]) dX5_wouldAnswer_270 9 rfl (nI_1 a) (by decide) rfl ?_
    refine z_goto B (tgt := 168) dX5_wouldAnswer_273 (by decide) ?_
    refine z_lsub [1, 2, 3, 4, 5, 6, 7, 8, 9, 0] rfl ?_
    have hF : fX5_wouldAnswer I R x1 x2 = fX5_wouldAnswer_L168 I R x1 x2 n (a + 1) ans I2 (va_up (va_up (va_up (va_up (va_up R2 6 (upd (R2 6) ((16 * (fX5_nearest ((fX5_canAsk I R x1 x2).2) R x1)) + nI a).toNatClampNeg ((R2 12) (nI a).toNatClampNeg))) 7 (upd (R2 7) ((16 * (fX5_nearest ((fX5_canAsk I R x1 x2).2) R x1)) + nI a).toNatClampNeg ((R2 13) (nI a).toNatClampNeg))) 8 (upd (R2 8) ((16 * (fX5_nearest ((fX5_canAsk I R x1 x2).2) R x1)) + nI a).toNatClampNeg ((R2 14) (nI a).toNatClampNeg))) 9 (upd (R2 9) ((16 * (fX5_nearest ((fX5_canAsk I R x1 x2).2) R x1)) + nI a).toNatClampNeg ((R2 15) (nI a).toNatClampNeg))) 10 (upd (R2 10) ((16 * (fX5_nearest ((fX5_canAsk I R x1 x2).2) R x1)) + nI a).toNatClampNeg ((R2 16) (nI a).toNatClampNeg))) := hF0
    exact ih (a + 1) ans I2 (va_up (va_up (va_up (va_up (va_up R2 6 (upd (R2 6) ((16 * (fX5_nearest ((fX5_canAsk I R x1 x2).2) R x1)) + nI a).toNatClampNeg ((R2 12) (nI a).toNatClampNeg))) 7 (upd (R2 7) ((16 * (fX5_nearest ((fX5_canAsk I R x1 x2).2) R x1)) + nI a).toNatClampNeg ((R2 13) (nI a).toNatClampNeg))) 8 (upd (R2 8) ((16 * (fX5_nearest ((fX5_canAsk I R x1 x2).2) R x1)) + nI a).toNatClampNeg ((R2 14) (nI a).toNatClampNeg))) 9 (upd (R2 9) ((16 * (fX5_nearest ((fX5_canAsk I R x1 x2).2) R x1)) + nI a).toNatClampNeg ((R2 15) (nI a).toNatClampNeg))) 10 (upd (R2 10) ((16 * (fX5_nearest ((fX5_canAsk I R x1 x2).2) R x1)) + nI a).toNatClampNeg ((R2 16) (nI a).toNatClampNeg))) (by omega) hA hF
set_option maxHeartbeats 4000000 in
set_option maxRecDepth 100000 in
theorem kX5_wouldAnswer_L44 (l : Launch) (hl : l.stackTraces = false) (K : zK) (am : Nat → Nat) (I : Nat → Int32) (R : Nat → Nat → Int32) (x1 : Int32) (x2 : Int32) (h5 : ¬ (I 5) < 0) (h6 : (I 5).toNatClampNeg ≤ 4) (hZ : zwZ R) (hC : zwC R) (h16 : (I 16) = 0 ∨ (I 16) = 1) {p : Program} {e : Env} {s : State} {m : MethodId} {args : Array Value} {below : List Frame} {meth : Method} {c : Code} {A : Nat → Prop} (B : zF K p l s m args meth c A cX5_wouldAnswer 10 RX5 "wouldAnswer" wsX5_wouldAnswer (some .int) []) : ∀ (n a : Nat) (R1 : Nat → Nat → Int32), a + n = 16 → (¬ ((fX5_canAsk I R x1 x2).1) = 0) → (zwZ R1) → (zwC R1) → fX5_wouldAnswer I R x1 x2 = fX5_wouldAnswer_L44 I R x1 x2 n a R1 → zW K p l e { frames := 4, cells := 0, slots := 0, locals := 95 } s m args below meth c A (vx_MQ below (zQ K A (fun _ : Unit => ((some (.int ((fX5_wouldAnswer I R x1 x2).1))), [zMo K am ((fX5_wouldAnswer I R x1 x2).2.1) ((fX5_wouldAnswer I R x1 x2).2.2)])) (fun _ => True)) (zX K A [zMo K am I R] zNo) args s 0 0 A) 0 0 [zMo K am ((fX5_canAsk I R x1 x2).2) R1] [(0, .ref (am 0)), (1, .int x1), (2, .int x2), (3, .int (fX5_nearest ((fX5_canAsk I R x1 x2).2) R x1)), (4, .int (((fX5_canAsk I R x1 x2).2) 16)), (5, .int (((fX5_canAsk I R x1 x2).2) 17)), (6, .int (((fX5_canAsk I R x1 x2).2) 18)), (7, .int (((fX5_canAsk I R x1 x2).2) 20)), (8, .int (nI a))] [] 44 := by
  intro n
  induction n with
  | zero =>
    intro a R1 ha hA hZ1 hC1 hF0
    refine z_iload B dX5_wouldAnswer_44 8 rfl ?_
    refine z_bipush B (v := 16) dX5_wouldAnswer_46 rfl ?_
    refine z_icge B 152 dX5_wouldAnswer_48 (by decide) (fun _ => ?_) (fun h => absurd (z_lge0 ha (by decide)) h)
    refine z_aload_n B dX5_wouldAnswer_152 0 rfl ?_
    refine z_iconst B (v := 0) dX5_wouldAnswer_153 rfl ?_
    refine z_put B 0 0 25 hiX5_wouldAnswer_5 hfX5_wouldAnswer_114 tyX5_ok nmX5 rfl rfl rfl (by decide) rfl rfl rfl rfl rfl rfl rfl (Nat.le_of_ble_eq_true rfl) (bs' := [zMo K am (va_up ((fX5_canAsk I R x1 x2).2) 25 0) R1]) zMoI25 dX5_wouldAnswer_154 ?_
    refine z_aload_n B dX5_wouldAnswer_157 0 rfl ?_
    refine z_iload_n B dX5_wouldAnswer_158 3 rfl ?_
    refine z_iload_n B dX5_wouldAnswer_159 2 rfl ?_
    refine z_V1 B (kX5_resolve l hl K am (va_up ((fX5_canAsk I R x1 x2).2) 25 0) R1 (fX5_nearest ((fX5_canAsk I R x1 x2).2) R x1) x2 (z_caS h5 h6 hA).1 (z_caS h5 h6 hA).2 hZ1 hC1 rfl) [0] [] (br := []) (bs' := [zMo K am ((fX5_resolve (va_up ((fX5_canAsk I R x1 x2).2) 25 0) R1 (fX5_nearest ((fX5_canAsk I R x1 x2).2) R x1) x2).2.1) ((fX5_resolve (va_up ((fX5_canAsk I R x1 x2).2) 25 0) R1 (fX5_nearest ((fX5_canAsk I R x1 x2).2) R x1) x2).2.2)]) (st := []) (nA := 2) (zsp rfl rfl rfl) (zsp rfl rfl rfl) 0 0 rfl rfl rfl rfl gX5_wouldAnswer_X5_resolve rfl (by decide +kernel) ⟨Nat.le_of_ble_eq_true rfl, Nat.le_of_ble_eq_true rfl⟩ rfl rfl (Nat.le_of_ble_eq_true rfl) ⟨Nat.le_of_ble_eq_true rfl, Nat.le_of_ble_eq_true rfl⟩ dX5_wouldAnswer_160 z_noX (fun _ => ?_)
    refine z_istore B (lv' := [(8, .int ((fX5_resolve (va_up ((fX5_canAsk I R x1 x2).2) 25 0) R1 (fX5_nearest ((fX5_canAsk I R x1 x2).2) R x1) x2).1)), (0, .ref (am 0)), (1, .int x1), (2, .int x2), (3, .int (fX5_nearest ((fX5_canAsk I R x1 x2).2) R x1)), (4, .int (((fX5_canAsk I R x1 x2).2) 16)), (5, .int (((fX5_canAsk I R x1 x2).2) 17)), (6, .int (((fX5_canAsk I R x1 x2).2) 18)), (7, .int (((fX5_canAsk I R x1 x2).2) 20))]) dX5_wouldAnswer_163 (by decide) rfl ?_
    refine z_iconst B (v := 0) dX5_wouldAnswer_165 rfl ?_
    refine z_istore B (lv' := [(9, .int 0), (8, .int ((fX5_resolve (va_up ((fX5_canAsk I R x1 x2).2) 25 0) R1 (fX5_nearest ((fX5_canAsk I R x1 x2).2) R x1) x2).1)), (0, .ref (am 0)), (1, .int x1), (2, .int x2), (3, .int (fX5_nearest ((fX5_canAsk I R x1 x2).2) R x1)), (4, .int (((fX5_canAsk I R x1 x2).2) 16)), (5, .int (((fX5_canAsk I R x1 x2).2) 17)), (6, .int (((fX5_canAsk I R x1 x2).2) 18)), (7, .int (((fX5_canAsk I R x1 x2).2) 20))]) dX5_wouldAnswer_166 (by decide) rfl ?_
    refine z_lsub [2, 3, 4, 5, 6, 7, 8, 9, 1, 0] rfl ?_
    have hF : fX5_wouldAnswer I R x1 x2 = fX5_wouldAnswer_L168 I R x1 x2 16 0 ((fX5_resolve (va_up ((fX5_canAsk I R x1 x2).2) 25 0) R1 (fX5_nearest ((fX5_canAsk I R x1 x2).2) R x1) x2).1) ((fX5_resolve (va_up ((fX5_canAsk I R x1 x2).2) 25 0) R1 (fX5_nearest ((fX5_canAsk I R x1 x2).2) R x1) x2).2.1) ((fX5_resolve (va_up ((fX5_canAsk I R x1 x2).2) 25 0) R1 (fX5_nearest ((fX5_canAsk I R x1 x2).2) R x1) x2).2.2) := hF0
    exact kX5_wouldAnswer_L168 l hl K am I R x1 x2 h5 h6 hZ hC h16 B 16 0 ((fX5_resolve (va_up ((fX5_canAsk I R x1 x2).2) 25 0) R1 (fX5_nearest ((fX5_canAsk I R x1 x2).2) R x1) x2).1) ((fX5_resolve (va_up ((fX5_canAsk I R x1 x2).2) 25 0) R1 (fX5_nearest ((fX5_canAsk I R x1 x2).2) R x1) x2).2.1) ((fX5_resolve (va_up ((fX5_canAsk I R x1 x2).2) 25 0) R1 (fX5_nearest ((fX5_canAsk I R x1 x2).2) R x1) x2).2.2) (by omega) hA hF
  | succ n ih =>
    intro a R1 ha hA hZ1 hC1 hF0
    refine z_iload B dX5_wouldAnswer_44 8 rfl ?_
    refine z_bipush B (v := 16) dX5_wouldAnswer_46 rfl ?_
    refine z_icge B 152 dX5_wouldAnswer_48 (by decide) (fun h => absurd h (z_lgeS ha (by decide))) (fun _ => ?_)
    refine z_aload_n B dX5_wouldAnswer_51 0 rfl ?_
    refine z_get B (v := .ref (am 12)) 0 0 26 hiX5_wouldAnswer_5 hfX5_wouldAnswer_44 rfl rfl rfl (by decide) rfl rfl rfl rfl dX5_wouldAnswer_52 ?_
    refine z_iload B dX5_wouldAnswer_55 8 rfl ?_
    refine z_aload_n B dX5_wouldAnswer_57 0 rfl ?_
    refine z_get B (v := .ref (am 6)) 0 0 10 hiX5_wouldAnswer_5 hfX5_wouldAnswer_26 rfl rfl rfl (by decide) rfl rfl rfl rfl dX5_wouldAnswer_58 ?_
    refine z_bipush B (v := 16) dX5_wouldAnswer_61 rfl ?_
    refine z_iload_n B dX5_wouldAnswer_63 3 rfl ?_
    refine z_imul B dX5_wouldAnswer_64 ?_
    refine z_iload B dX5_wouldAnswer_65 8 rfl ?_
    refine z_iadd B dX5_wouldAnswer_67 ?_
    refine z_iald B (N := 64) (f := (R1 6)) 0 6 rfl rfl (z_ixn (z_caS h5 h6 hA).1 (z_nIr (by omega) (by decide))) dX5_wouldAnswer_68 ?_
    refine z_iast B (N := 16) (f := (R1 12)) 0 12 rfl rfl (z_nIr (by omega) (by decide)) (bs' := [zMo K am ((fX5_canAsk I R x1 x2).2) (va_up R1 12 (upd (R1 12) (nI a).toNatClampNeg ((R1 6) ((16 * (fX5_nearest ((fX5_canAsk I R x1 x2).2) R x1)) + nI a).toNatClampNeg)))]) zMoR12 dX5_wouldAnswer_69 ?_
    refine z_aload_n B dX5_wouldAnswer_70 0 rfl ?_
    refine z_get B (v := .ref (am 13)) 0 0 27 hiX5_wouldAnswer_5 hfX5_wouldAnswer_47 rfl rfl rfl (by decide) rfl rfl rfl rfl dX5_wouldAnswer_71 ?_
    refine z_iload B dX5_wouldAnswer_74 8 rfl ?_
    refine z_aload_n B dX5_wouldAnswer_76 0 rfl ?_
    refine z_get B (v := .ref (am 7)) 0 0 11 hiX5_wouldAnswer_5 hfX5_wouldAnswer_29 rfl rfl rfl (by decide) rfl rfl rfl rfl dX5_wouldAnswer_77 ?_
    refine z_bipush B (v := 16) dX5_wouldAnswer_80 rfl ?_
    refine z_iload_n B dX5_wouldAnswer_82 3 rfl ?_
    refine z_imul B dX5_wouldAnswer_83 ?_
    refine z_iload B dX5_wouldAnswer_84 8 rfl ?_
    refine z_iadd B dX5_wouldAnswer_86 ?_
    refine z_iald B (N := 64) (f := (R1 7)) 0 7 rfl rfl (z_ixn (z_caS h5 h6 hA).1 (z_nIr (by omega) (by decide))) dX5_wouldAnswer_87 ?_
    refine z_iast B (N := 16) (f := (R1 13)) 0 13 rfl rfl (z_nIr (by omega) (by decide)) (bs' := [zMo K am ((fX5_canAsk I R x1 x2).2) (va_up (va_up R1 12 (upd (R1 12) (nI a).toNatClampNeg ((R1 6) ((16 * (fX5_nearest ((fX5_canAsk I R x1 x2).2) R x1)) + nI a).toNatClampNeg))) 13 (upd (R1 13) (nI a).toNatClampNeg ((R1 7) ((16 * (fX5_nearest ((fX5_canAsk I R x1 x2).2) R x1)) + nI a).toNatClampNeg)))]) zMoR13 dX5_wouldAnswer_88 ?_
    refine z_aload_n B dX5_wouldAnswer_89 0 rfl ?_
    refine z_get B (v := .ref (am 14)) 0 0 28 hiX5_wouldAnswer_5 hfX5_wouldAnswer_50 rfl rfl rfl (by decide) rfl rfl rfl rfl dX5_wouldAnswer_90 ?_
    refine z_iload B dX5_wouldAnswer_93 8 rfl ?_
    refine z_aload_n B dX5_wouldAnswer_95 0 rfl ?_
    refine z_get B (v := .ref (am 8)) 0 0 12 hiX5_wouldAnswer_5 hfX5_wouldAnswer_32 rfl rfl rfl (by decide) rfl rfl rfl rfl dX5_wouldAnswer_96 ?_
    refine z_bipush B (v := 16) dX5_wouldAnswer_99 rfl ?_
    refine z_iload_n B dX5_wouldAnswer_101 3 rfl ?_
    refine z_imul B dX5_wouldAnswer_102 ?_
    refine z_iload B dX5_wouldAnswer_103 8 rfl ?_
    refine z_iadd B dX5_wouldAnswer_105 ?_
    refine z_iald B (N := 64) (f := (R1 8)) 0 8 rfl rfl (z_ixn (z_caS h5 h6 hA).1 (z_nIr (by omega) (by decide))) dX5_wouldAnswer_106 ?_
    refine z_iast B (N := 16) (f := (R1 14)) 0 14 rfl rfl (z_nIr (by omega) (by decide)) (bs' := [zMo K am ((fX5_canAsk I R x1 x2).2) (va_up (va_up (va_up R1 12 (upd (R1 12) (nI a).toNatClampNeg ((R1 6) ((16 * (fX5_nearest ((fX5_canAsk I R x1 x2).2) R x1)) + nI a).toNatClampNeg))) 13 (upd (R1 13) (nI a).toNatClampNeg ((R1 7) ((16 * (fX5_nearest ((fX5_canAsk I R x1 x2).2) R x1)) + nI a).toNatClampNeg))) 14 (upd (R1 14) (nI a).toNatClampNeg ((R1 8) ((16 * (fX5_nearest ((fX5_canAsk I R x1 x2).2) R x1)) + nI a).toNatClampNeg)))]) zMoR14 dX5_wouldAnswer_107 ?_
    refine z_aload_n B dX5_wouldAnswer_108 0 rfl ?_
    refine z_get B (v := .ref (am 15)) 0 0 29 hiX5_wouldAnswer_5 hfX5_wouldAnswer_53 rfl rfl rfl (by decide) rfl rfl rfl rfl dX5_wouldAnswer_109 ?_
    refine z_iload B dX5_wouldAnswer_112 8 rfl ?_
    refine z_aload_n B dX5_wouldAnswer_114 0 rfl ?_
    refine z_get B (v := .ref (am 9)) 0 0 13 hiX5_wouldAnswer_5 hfX5_wouldAnswer_35 rfl rfl rfl (by decide) rfl rfl rfl rfl dX5_wouldAnswer_115 ?_
    refine z_bipush B (v := 16) dX5_wouldAnswer_118 rfl ?_
    refine z_iload_n B dX5_wouldAnswer_120 3 rfl ?_
    refine z_imul B dX5_wouldAnswer_121 ?_
    refine z_iload B dX5_wouldAnswer_122 8 rfl ?_
    refine z_iadd B dX5_wouldAnswer_124 ?_
    refine z_iald B (N := 64) (f := (R1 9)) 0 9 rfl rfl (z_ixn (z_caS h5 h6 hA).1 (z_nIr (by omega) (by decide))) dX5_wouldAnswer_125 ?_
    refine z_iast B (N := 16) (f := (R1 15)) 0 15 rfl rfl (z_nIr (by omega) (by decide)) (bs' := [zMo K am ((fX5_canAsk I R x1 x2).2) (va_up (va_up (va_up (va_up R1 12 (upd (R1 12) (nI a).toNatClampNeg ((R1 6) ((16 * (fX5_nearest ((fX5_canAsk I R x1 x2).2) R x1)) + nI a).toNatClampNeg))) 13 (upd (R1 13) (nI a).toNatClampNeg ((R1 7) ((16 * (fX5_nearest ((fX5_canAsk I R x1 x2).2) R x1)) + nI a).toNatClampNeg))) 14 (upd (R1 14) (nI a).toNatClampNeg ((R1 8) ((16 * (fX5_nearest ((fX5_canAsk I R x1 x2).2) R x1)) + nI a).toNatClampNeg))) 15 (upd (R1 15) (nI a).toNatClampNeg ((R1 9) ((16 * (fX5_nearest ((fX5_canAsk I R x1 x2).2) R x1)) + nI a).toNatClampNeg)))]) zMoR15 dX5_wouldAnswer_126 ?_
    refine z_aload_n B dX5_wouldAnswer_127 0 rfl ?_
    refine z_get B (v := .ref (am 16)) 0 0 30 hiX5_wouldAnswer_5 hfX5_wouldAnswer_56 rfl rfl rfl (by decide) rfl rfl rfl rfl dX5_wouldAnswer_128 ?_
    refine z_iload B dX5_wouldAnswer_131 8 rfl ?_
    refine z_aload_n B dX5_wouldAnswer_133 0 rfl ?_
    refine z_get B (v := .ref (am 10)) 0 0 14 hiX5_wouldAnswer_5 hfX5_wouldAnswer_38 rfl rfl rfl (by decide) rfl rfl rfl rfl dX5_wouldAnswer_134 ?_
    refine z_bipush B (v := 16) dX5_wouldAnswer_137 rfl ?_
    refine z_iload_n B dX5_wouldAnswer_139 3 rfl ?_
    refine z_imul B dX5_wouldAnswer_140 ?_
    refine z_iload B dX5_wouldAnswer_141 8 rfl ?_
    refine z_iadd B dX5_wouldAnswer_143 ?_
    refine z_iald B (N := 64) (f := (R1 10)) 0 10 rfl rfl (z_ixn (z_caS h5 h6 hA).1 (z_nIr (by omega) (by decide))) dX5_wouldAnswer_144 ?_
    refine z_iast B (N := 16) (f := (R1 16)) 0 16 rfl rfl (z_nIr (by omega) (by decide)) (bs' := [zMo K am ((fX5_canAsk I R x1 x2).2) (va_up (va_up (va_up (va_up (va_up R1 12 (upd (R1 12) (nI a).toNatClampNeg ((R1 6) ((16 * (fX5_nearest ((fX5_canAsk I R x1 x2).2) R x1)) + nI a).toNatClampNeg))) 13 (upd (R1 13) (nI a).toNatClampNeg ((R1 7) ((16 * (fX5_nearest ((fX5_canAsk I R x1 x2).2) R x1)) + nI a).toNatClampNeg))) 14 (upd (R1 14) (nI a).toNatClampNeg ((R1 8) ((16 * (fX5_nearest ((fX5_canAsk I R x1 x2).2) R x1)) + nI a).toNatClampNeg))) 15 (upd (R1 15) (nI a).toNatClampNeg ((R1 9) ((16 * (fX5_nearest ((fX5_canAsk I R x1 x2).2) R x1)) + nI a).toNatClampNeg))) 16 (upd (R1 16) (nI a).toNatClampNeg ((R1 10) ((16 * (fX5_nearest ((fX5_canAsk I R x1 x2).2) R x1)) + nI a).toNatClampNeg)))]) zMoR16 dX5_wouldAnswer_145 ?_
    refine z_iinc B (v := nI (a + 1)) (lv' := [(8, .int (nI (a + 1))), (0, .ref (am 0)), (1, .int x1), (2, .int x2), (3, .int (fX5_nearest ((fX5_canAsk I R x1 x2).2) R x1)), (4, .int (((fX5_canAsk I R x1 x2).2) 16)), (5, .int (((fX5_canAsk I R x1 x2).2) 17)), (6, .int (((fX5_canAsk I R x1 x2).2) 18)), (7, .int (((fX5_canAsk I R x1 x2).2) 20))]) dX5_wouldAnswer_146 8 rfl (nI_1 a) (by decide) rfl ?_
    refine z_goto B (tgt := 44) dX5_wouldAnswer_149 (by decide) ?_
    refine z_lsub [1, 2, 3, 4, 5, 6, 7, 8, 0] rfl ?_
    have hF : fX5_wouldAnswer I R x1 x2 = fX5_wouldAnswer_L44 I R x1 x2 n (a + 1) (va_up (va_up (va_up (va_up (va_up R1 12 (upd (R1 12) (nI a).toNatClampNeg ((R1 6) ((16 * (fX5_nearest ((fX5_canAsk I R x1 x2).2) R x1)) + nI a).toNatClampNeg))) 13 (upd (R1 13) (nI a).toNatClampNeg ((R1 7) ((16 * (fX5_nearest ((fX5_canAsk I R x1 x2).2) R x1)) + nI a).toNatClampNeg))) 14 (upd (R1 14) (nI a).toNatClampNeg ((R1 8) ((16 * (fX5_nearest ((fX5_canAsk I R x1 x2).2) R x1)) + nI a).toNatClampNeg))) 15 (upd (R1 15) (nI a).toNatClampNeg ((R1 9) ((16 * (fX5_nearest ((fX5_canAsk I R x1 x2).2) R x1)) + nI a).toNatClampNeg))) 16 (upd (R1 16) (nI a).toNatClampNeg ((R1 10) ((16 * (fX5_nearest ((fX5_canAsk I R x1 x2).2) R x1)) + nI a).toNatClampNeg))) := hF0
    exact ih (a + 1) (va_up (va_up (va_up (va_up (va_up R1 12 (upd (R1 12) (nI a).toNatClampNeg ((R1 6) ((16 * (fX5_nearest ((fX5_canAsk I R x1 x2).2) R x1)) + nI a).toNatClampNeg))) 13 (upd (R1 13) (nI a).toNatClampNeg ((R1 7) ((16 * (fX5_nearest ((fX5_canAsk I R x1 x2).2) R x1)) + nI a).toNatClampNeg))) 14 (upd (R1 14) (nI a).toNatClampNeg ((R1 8) ((16 * (fX5_nearest ((fX5_canAsk I R x1 x2).2) R x1)) + nI a).toNatClampNeg))) 15 (upd (R1 15) (nI a).toNatClampNeg ((R1 9) ((16 * (fX5_nearest ((fX5_canAsk I R x1 x2).2) R x1)) + nI a).toNatClampNeg))) 16 (upd (R1 16) (nI a).toNatClampNeg ((R1 10) ((16 * (fX5_nearest ((fX5_canAsk I R x1 x2).2) R x1)) + nI a).toNatClampNeg))) (by omega) hA hZ1 hC1 hF
set_option maxHeartbeats 4000000 in
set_option maxRecDepth 100000 in
theorem kX5_wouldAnswer (l : Launch) (hl : l.stackTraces = false) (K : zK) (am : Nat → Nat) (I : Nat → Int32) (R : Nat → Nat → Int32) (x1 : Int32) (x2 : Int32) (h5 : ¬ (I 5) < 0) (h6 : (I 5).toNatClampNeg ≤ 4) (hZ : zwZ R) (hC : zwC R) (h16 : (I 16) = 0 ∨ (I 16) = 1) : zMet l K yX5_wouldAnswer wsX5_wouldAnswer { frames := 4, cells := 0, slots := 0, locals := 95 } [.ref (am 0), .int x1, .int x2] [zMo K am I R] (some (.int ((fX5_wouldAnswer I R x1 x2).1))) [zMo K am ((fX5_wouldAnswer I R x1 x2).2.1) ((fX5_wouldAnswer I R x1 x2).2.2)] True zNo := by
  refine zMeN.of (cc := cX5_wouldAnswer) (maxL := 10) (ret := (some .int)) (own := RX5) (nm := "wouldAnswer") hl (by decide +kernel) rfl rfl rfl (Nat.le_of_ble_eq_true rfl) (lv := [(0, .ref (am 0)), (1, .int x1), (2, .int x2)]) rfl ?_
  intro p e s m args below meth c A B
  refine z_aload_n B dX5_wouldAnswer_0 0 rfl ?_
  refine z_iload_n B dX5_wouldAnswer_1 1 rfl ?_
  refine z_iload_n B dX5_wouldAnswer_2 2 rfl ?_
  refine z_V1 B (kX5_canAsk l hl K am I R x1 x2 h5 h6) [0] [] (br := []) (bs' := [zMo K am ((fX5_canAsk I R x1 x2).2) R]) (st := []) (nA := 2) (zsp rfl rfl rfl) (zsp rfl rfl rfl) 0 0 rfl rfl rfl rfl gX5_wouldAnswer_X5_canAsk rfl (by decide +kernel) ⟨Nat.le_of_ble_eq_true rfl, Nat.le_of_ble_eq_true rfl⟩ rfl rfl (Nat.le_of_ble_eq_true rfl) ⟨Nat.le_of_ble_eq_true rfl, Nat.le_of_ble_eq_true rfl⟩ dX5_wouldAnswer_3 z_noX (fun _ => ?_)
  refine z_ifne B 11 dX5_wouldAnswer_6 (by decide) (fun c1 => ?_) (fun c1 => ?_)
  · refine z_iconst B (v := 0) dX5_wouldAnswer_9 rfl ?_
    have hF : fX5_wouldAnswer I R x1 x2 = (0, ((fX5_canAsk I R x1 x2).2), R) := if_pos c1
    exact z_ret1 B rfl dX5_wouldAnswer_10 () (trivial) (Nat.le_of_ble_eq_true rfl) (Nat.le_of_ble_eq_true rfl) (by rw [hF]) (by rw [hF])
  · refine z_aload_n B dX5_wouldAnswer_11 0 rfl ?_
    refine z_iload_n B dX5_wouldAnswer_12 1 rfl ?_
    refine z_V1 B (kX5_nearest l hl K am ((fX5_canAsk I R x1 x2).2) R x1 (by rw [z_caI (by decide)]; exact h5) (by rw [z_caI (by decide)]; exact h6)) [0] [] (br := []) (bs' := [zMo K am ((fX5_canAsk I R x1 x2).2) R]) (st := []) (nA := 1) (zsp rfl rfl rfl) (zsp rfl rfl rfl) 0 0 rfl rfl rfl rfl gX5_wouldAnswer_X5_nearest rfl (by decide +kernel) ⟨Nat.le_of_ble_eq_true rfl, Nat.le_of_ble_eq_true rfl⟩ rfl rfl (Nat.le_of_ble_eq_true rfl) ⟨Nat.le_of_ble_eq_true rfl, Nat.le_of_ble_eq_true rfl⟩ dX5_wouldAnswer_13 z_noX (fun _ => ?_)
    refine z_istore_n B (lv' := [(3, .int (fX5_nearest ((fX5_canAsk I R x1 x2).2) R x1)), (0, .ref (am 0)), (1, .int x1), (2, .int x2)]) dX5_wouldAnswer_16 (by decide) rfl ?_
    refine z_aload_n B dX5_wouldAnswer_17 1 rfl ?_
    refine z_get B (v := .int (((fX5_canAsk I R x1 x2).2) 16)) 0 0 16 hiX5_wouldAnswer_5 hfX5_wouldAnswer_121 rfl rfl rfl (by decide) rfl rfl rfl rfl dX5_wouldAnswer_18 ?_
    refine z_istore B (lv' := [(4, .int (((fX5_canAsk I R x1 x2).2) 16)), (3, .int (fX5_nearest ((fX5_canAsk I R x1 x2).2) R x1)), (0, .ref (am 0)), (1, .int x1), (2, .int x2)]) dX5_wouldAnswer_21 (by decide) rfl ?_
    refine z_aload_n B dX5_wouldAnswer_23 2 rfl ?_
    refine z_get B (v := .int (((fX5_canAsk I R x1 x2).2) 17)) 0 0 17 hiX5_wouldAnswer_5 hfX5_wouldAnswer_111 rfl rfl rfl (by decide) rfl rfl rfl rfl dX5_wouldAnswer_24 ?_
    refine z_istore B (lv' := [(5, .int (((fX5_canAsk I R x1 x2).2) 17)), (4, .int (((fX5_canAsk I R x1 x2).2) 16)), (3, .int (fX5_nearest ((fX5_canAsk I R x1 x2).2) R x1)), (0, .ref (am 0)), (1, .int x1), (2, .int x2)]) dX5_wouldAnswer_27 (by decide) rfl ?_
    refine z_aload_n B dX5_wouldAnswer_29 3 rfl ?_
    refine z_get B (v := .int (((fX5_canAsk I R x1 x2).2) 18)) 0 0 18 hiX5_wouldAnswer_5 hfX5_wouldAnswer_108 rfl rfl rfl (by decide) rfl rfl rfl rfl dX5_wouldAnswer_30 ?_
    refine z_istore B (lv' := [(6, .int (((fX5_canAsk I R x1 x2).2) 18)), (5, .int (((fX5_canAsk I R x1 x2).2) 17)), (4, .int (((fX5_canAsk I R x1 x2).2) 16)), (3, .int (fX5_nearest ((fX5_canAsk I R x1 x2).2) R x1)), (0, .ref (am 0)), (1, .int x1), (2, .int x2)]) dX5_wouldAnswer_33 (by decide) rfl ?_
    refine z_aload_n B dX5_wouldAnswer_35 4 rfl ?_
    refine z_get B (v := .int (((fX5_canAsk I R x1 x2).2) 20)) 0 0 20 hiX5_wouldAnswer_5 hfX5_wouldAnswer_105 rfl rfl rfl (by decide) rfl rfl rfl rfl dX5_wouldAnswer_36 ?_
    refine z_istore B (lv' := [(7, .int (((fX5_canAsk I R x1 x2).2) 20)), (6, .int (((fX5_canAsk I R x1 x2).2) 18)), (5, .int (((fX5_canAsk I R x1 x2).2) 17)), (4, .int (((fX5_canAsk I R x1 x2).2) 16)), (3, .int (fX5_nearest ((fX5_canAsk I R x1 x2).2) R x1)), (0, .ref (am 0)), (1, .int x1), (2, .int x2)]) dX5_wouldAnswer_39 (by decide) rfl ?_
    refine z_iconst B (v := 0) dX5_wouldAnswer_41 rfl ?_
    refine z_istore B (lv' := [(8, .int 0), (7, .int (((fX5_canAsk I R x1 x2).2) 20)), (6, .int (((fX5_canAsk I R x1 x2).2) 18)), (5, .int (((fX5_canAsk I R x1 x2).2) 17)), (4, .int (((fX5_canAsk I R x1 x2).2) 16)), (3, .int (fX5_nearest ((fX5_canAsk I R x1 x2).2) R x1)), (0, .ref (am 0)), (1, .int x1), (2, .int x2)]) dX5_wouldAnswer_42 (by decide) rfl ?_
    refine z_lsub [6, 7, 8, 5, 4, 3, 2, 1, 0] rfl ?_
    have hF : fX5_wouldAnswer I R x1 x2 = fX5_wouldAnswer_L44 I R x1 x2 16 0 R := if_neg c1
    exact kX5_wouldAnswer_L44 l hl K am I R x1 x2 h5 h6 hZ hC h16 B 16 0 R (by omega) c1 hZ hC hF
def fX5_entries (I : Nat → Int32) (R : Nat → Nat → Int32) (x1 : Int32) : Int32 × (Nat → Int32) :=
  if (fX5_isSite I R x1) = 0 then
    (0, (va_up I 9 1))
  else
    ((fX5_size (va_up I 9 0) R x1), (va_up I 9 0))
theorem hiX5_entries_5 : ∀ w ∈ wsX50, w ∈ wsX5_entries := by decide +kernel
theorem hfX5_entries_70 : Cond.fieldLink RX5 70 "ResolverFleetModel" "thrown" "I" ∈ wsX5_entries := by decide +kernel
set_option maxHeartbeats 4000000 in
set_option maxRecDepth 100000 in
theorem kX5_entries (l : Launch) (hl : l.stackTraces = false) (K : zK) (am : Nat → Nat) (I : Nat → Int32) (R : Nat → Nat → Int32) (x1 : Int32) (h5 : ¬ (I 5) < 0) (h6 : (I 5).toNatClampNeg ≤ 4) : zMet l K yX5_entries wsX5_entries { frames := 2, cells := 0, slots := 0, locals := 43 } [.ref (am 0), .int x1] [zMo K am I R] (some (.int ((fX5_entries I R x1).1))) [zMo K am ((fX5_entries I R x1).2) R] True zNo := by
  refine zMeN.of (cc := cX5_entries) (maxL := 2) (ret := (some .int)) (own := RX5) (nm := "entries") hl (by decide +kernel) rfl rfl rfl (Nat.le_of_ble_eq_true rfl) (lv := [(0, .ref (am 0)), (1, .int x1)]) rfl ?_
  intro p e s m args below meth c A B
  refine z_aload_n B dX5_entries_0 0 rfl ?_
  refine z_aload_n B dX5_entries_1 0 rfl ?_
  refine z_iload_n B dX5_entries_2 1 rfl ?_
  refine z_V1 B (kX5_isSite l hl K am I R x1) [0] [] (br := []) (bs' := [zMo K am I R]) (st := [.ref (am 0)]) (nA := 1) (zsp rfl rfl rfl) (zsp rfl rfl rfl) 0 0 rfl rfl rfl rfl gX5_entries_X5_isSite rfl (by decide +kernel) ⟨Nat.le_of_ble_eq_true rfl, Nat.le_of_ble_eq_true rfl⟩ rfl rfl (Nat.le_of_ble_eq_true rfl) ⟨Nat.le_of_ble_eq_true rfl, Nat.le_of_ble_eq_true rfl⟩ dX5_entries_3 z_noX (fun _ => ?_)
  refine z_ifeq B 13 dX5_entries_6 (by decide) (fun c1 => ?_) (fun c1 => ?_)
  · refine z_iconst B (v := 1) dX5_entries_13 rfl ?_
    refine z_put B 0 0 9 hiX5_entries_5 hfX5_entries_70 tyX5_ok nmX5 rfl rfl rfl (by decide) rfl rfl rfl rfl rfl rfl rfl (Nat.le_of_ble_eq_true rfl) (bs' := [zMo K am (va_up I 9 1) R]) zMoI9 dX5_entries_14 ?_
    refine z_aload_n B dX5_entries_17 0 rfl ?_
    refine z_get B (v := .int 1) 0 0 9 hiX5_entries_5 hfX5_entries_70 rfl rfl rfl (by decide) rfl rfl rfl rfl dX5_entries_18 ?_
    refine z_ifne B 32 dX5_entries_21 (by decide) (fun h => absurd h (by decide)) (fun _ => ?_)
    refine z_iconst B (v := 0) dX5_entries_32 rfl ?_
    have hF : fX5_entries I R x1 = (0, (va_up I 9 1)) := if_pos c1
    exact z_ret1 B rfl dX5_entries_33 () (trivial) (Nat.le_of_ble_eq_true rfl) (Nat.le_of_ble_eq_true rfl) (by rw [hF]) (by rw [hF])
  · refine z_iconst B (v := 0) dX5_entries_9 rfl ?_
    refine z_goto B (tgt := 14) dX5_entries_10 (by decide) ?_
    refine z_put B 0 0 9 hiX5_entries_5 hfX5_entries_70 tyX5_ok nmX5 rfl rfl rfl (by decide) rfl rfl rfl rfl rfl rfl rfl (Nat.le_of_ble_eq_true rfl) (bs' := [zMo K am (va_up I 9 0) R]) zMoI9 dX5_entries_14 ?_
    refine z_aload_n B dX5_entries_17 0 rfl ?_
    refine z_get B (v := .int 0) 0 0 9 hiX5_entries_5 hfX5_entries_70 rfl rfl rfl (by decide) rfl rfl rfl rfl dX5_entries_18 ?_
    refine z_ifne B 32 dX5_entries_21 (by decide) (fun _ => ?_) (fun h => absurd (by decide) h)
    refine z_aload_n B dX5_entries_24 0 rfl ?_
    refine z_iload_n B dX5_entries_25 1 rfl ?_
    refine z_V1 B (kX5_size l hl K am (va_up I 9 0) R x1 (z_isSite h5 h6 c1)) [0] [] (br := []) (bs' := [zMo K am (va_up I 9 0) R]) (st := []) (nA := 1) (zsp rfl rfl rfl) (zsp rfl rfl rfl) 0 0 rfl rfl rfl rfl gX5_entries_X5_size rfl (by decide +kernel) ⟨Nat.le_of_ble_eq_true rfl, Nat.le_of_ble_eq_true rfl⟩ rfl rfl (Nat.le_of_ble_eq_true rfl) ⟨Nat.le_of_ble_eq_true rfl, Nat.le_of_ble_eq_true rfl⟩ dX5_entries_26 z_noX (fun _ => ?_)
    refine z_goto B (tgt := 33) dX5_entries_29 (by decide) ?_
    have hF : fX5_entries I R x1 = ((fX5_size (va_up I 9 0) R x1), (va_up I 9 0)) := if_neg c1
    exact z_ret1 B rfl dX5_entries_33 () (trivial) (Nat.le_of_ble_eq_true rfl) (Nat.le_of_ble_eq_true rfl) (by rw [hF]) (by rw [hF])
