/-! one place of the reference that is new: the block with it, decided once for variables -/
theorem zMoR1 {K : zK} {a : Nat → Nat} {I : Nat → Int32} {R : Nat → Nat → Int32} {f : Nat → Int32} : ([zMo K a I R] : zB).set 0 ((zMo K a I R).set 1 (a 1, .inl (zI K, 16, .inl f))) = [zMo K a I (va_up R 1 f)] := rfl
theorem zMoR2 {K : zK} {a : Nat → Nat} {I : Nat → Int32} {R : Nat → Nat → Int32} {f : Nat → Int32} : ([zMo K a I R] : zB).set 0 ((zMo K a I R).set 2 (a 2, .inl (zI K, 16, .inl f))) = [zMo K a I (va_up R 2 f)] := rfl
theorem zMoR3 {K : zK} {a : Nat → Nat} {I : Nat → Int32} {R : Nat → Nat → Int32} {f : Nat → Int32} : ([zMo K a I R] : zB).set 0 ((zMo K a I R).set 3 (a 3, .inl (zI K, 16, .inl f))) = [zMo K a I (va_up R 3 f)] := rfl
theorem zMoR4 {K : zK} {a : Nat → Nat} {I : Nat → Int32} {R : Nat → Nat → Int32} {f : Nat → Int32} : ([zMo K a I R] : zB).set 0 ((zMo K a I R).set 4 (a 4, .inl (zI K, 4, .inl f))) = [zMo K a I (va_up R 4 f)] := rfl
theorem zMoR5 {K : zK} {a : Nat → Nat} {I : Nat → Int32} {R : Nat → Nat → Int32} {f : Nat → Int32} : ([zMo K a I R] : zB).set 0 ((zMo K a I R).set 5 (a 5, .inl (zZ K, 4, .inl f))) = [zMo K a I (va_up R 5 f)] := rfl
theorem zMoR6 {K : zK} {a : Nat → Nat} {I : Nat → Int32} {R : Nat → Nat → Int32} {f : Nat → Int32} : ([zMo K a I R] : zB).set 0 ((zMo K a I R).set 6 (a 6, .inl (zI K, 64, .inl f))) = [zMo K a I (va_up R 6 f)] := rfl
theorem zMoR7 {K : zK} {a : Nat → Nat} {I : Nat → Int32} {R : Nat → Nat → Int32} {f : Nat → Int32} : ([zMo K a I R] : zB).set 0 ((zMo K a I R).set 7 (a 7, .inl (zI K, 64, .inl f))) = [zMo K a I (va_up R 7 f)] := rfl
theorem zMoR8 {K : zK} {a : Nat → Nat} {I : Nat → Int32} {R : Nat → Nat → Int32} {f : Nat → Int32} : ([zMo K a I R] : zB).set 0 ((zMo K a I R).set 8 (a 8, .inl (zI K, 64, .inl f))) = [zMo K a I (va_up R 8 f)] := rfl
theorem zMoR9 {K : zK} {a : Nat → Nat} {I : Nat → Int32} {R : Nat → Nat → Int32} {f : Nat → Int32} : ([zMo K a I R] : zB).set 0 ((zMo K a I R).set 9 (a 9, .inl (zI K, 64, .inl f))) = [zMo K a I (va_up R 9 f)] := rfl
theorem zMoR10 {K : zK} {a : Nat → Nat} {I : Nat → Int32} {R : Nat → Nat → Int32} {f : Nat → Int32} : ([zMo K a I R] : zB).set 0 ((zMo K a I R).set 10 (a 10, .inl (zI K, 64, .inl f))) = [zMo K a I (va_up R 10 f)] := rfl
theorem zMoR11 {K : zK} {a : Nat → Nat} {I : Nat → Int32} {R : Nat → Nat → Int32} {f : Nat → Int32} : ([zMo K a I R] : zB).set 0 ((zMo K a I R).set 11 (a 11, .inl (zI K, 8, .inl f))) = [zMo K a I (va_up R 11 f)] := rfl
theorem zMoR12 {K : zK} {a : Nat → Nat} {I : Nat → Int32} {R : Nat → Nat → Int32} {f : Nat → Int32} : ([zMo K a I R] : zB).set 0 ((zMo K a I R).set 12 (a 12, .inl (zI K, 16, .inl f))) = [zMo K a I (va_up R 12 f)] := rfl
theorem zMoR13 {K : zK} {a : Nat → Nat} {I : Nat → Int32} {R : Nat → Nat → Int32} {f : Nat → Int32} : ([zMo K a I R] : zB).set 0 ((zMo K a I R).set 13 (a 13, .inl (zI K, 16, .inl f))) = [zMo K a I (va_up R 13 f)] := rfl
theorem zMoR14 {K : zK} {a : Nat → Nat} {I : Nat → Int32} {R : Nat → Nat → Int32} {f : Nat → Int32} : ([zMo K a I R] : zB).set 0 ((zMo K a I R).set 14 (a 14, .inl (zI K, 16, .inl f))) = [zMo K a I (va_up R 14 f)] := rfl
theorem zMoR15 {K : zK} {a : Nat → Nat} {I : Nat → Int32} {R : Nat → Nat → Int32} {f : Nat → Int32} : ([zMo K a I R] : zB).set 0 ((zMo K a I R).set 15 (a 15, .inl (zI K, 16, .inl f))) = [zMo K a I (va_up R 15 f)] := rfl
theorem zMoR16 {K : zK} {a : Nat → Nat} {I : Nat → Int32} {R : Nat → Nat → Int32} {f : Nat → Int32} : ([zMo K a I R] : zB).set 0 ((zMo K a I R).set 16 (a 16, .inl (zI K, 16, .inl f))) = [zMo K a I (va_up R 16 f)] := rfl
theorem zMoI3 {K : zK} {a : Nat → Nat} {I : Nat → Int32} {R : Nat → Nat → Int32} {v : Int32} : ([zMo K a I R] : zB).set 0 ((zMo K a I R).set 0 (a 0, .inr (5, ([.ref (a 1), .ref (a 2), .ref (a 3), .int (I 3), .int (I 4), .int (I 5), .ref (a 4), .ref (a 5), .int (I 8), .int (I 9), .ref (a 6), .ref (a 7), .ref (a 8), .ref (a 9), .ref (a 10), .int (I 15), .int (I 16), .int (I 17), .int (I 18), .int (I 19), .int (I 20), .int (I 21), .int (I 22), .int (I 23), .ref (a 11), .int (I 25), .ref (a 12), .ref (a 13), .ref (a 14), .ref (a 15), .ref (a 16)] : List Value).set 3 (.int v)))) = [zMo K a (va_up I 3 v) R] := rfl
theorem zMoI4 {K : zK} {a : Nat → Nat} {I : Nat → Int32} {R : Nat → Nat → Int32} {v : Int32} : ([zMo K a I R] : zB).set 0 ((zMo K a I R).set 0 (a 0, .inr (5, ([.ref (a 1), .ref (a 2), .ref (a 3), .int (I 3), .int (I 4), .int (I 5), .ref (a 4), .ref (a 5), .int (I 8), .int (I 9), .ref (a 6), .ref (a 7), .ref (a 8), .ref (a 9), .ref (a 10), .int (I 15), .int (I 16), .int (I 17), .int (I 18), .int (I 19), .int (I 20), .int (I 21), .int (I 22), .int (I 23), .ref (a 11), .int (I 25), .ref (a 12), .ref (a 13), .ref (a 14), .ref (a 15), .ref (a 16)] : List Value).set 4 (.int v)))) = [zMo K a (va_up I 4 v) R] := rfl
theorem zMoI5 {K : zK} {a : Nat → Nat} {I : Nat → Int32} {R : Nat → Nat → Int32} {v : Int32} : ([zMo K a I R] : zB).set 0 ((zMo K a I R).set 0 (a 0, .inr (5, ([.ref (a 1), .ref (a 2), .ref (a 3), .int (I 3), .int (I 4), .int (I 5), .ref (a 4), .ref (a 5), .int (I 8), .int (I 9), .ref (a 6), .ref (a 7), .ref (a 8), .ref (a 9), .ref (a 10), .int (I 15), .int (I 16), .int (I 17), .int (I 18), .int (I 19), .int (I 20), .int (I 21), .int (I 22), .int (I 23), .ref (a 11), .int (I 25), .ref (a 12), .ref (a 13), .ref (a 14), .ref (a 15), .ref (a 16)] : List Value).set 5 (.int v)))) = [zMo K a (va_up I 5 v) R] := rfl
theorem zMoI8 {K : zK} {a : Nat → Nat} {I : Nat → Int32} {R : Nat → Nat → Int32} {v : Int32} : ([zMo K a I R] : zB).set 0 ((zMo K a I R).set 0 (a 0, .inr (5, ([.ref (a 1), .ref (a 2), .ref (a 3), .int (I 3), .int (I 4), .int (I 5), .ref (a 4), .ref (a 5), .int (I 8), .int (I 9), .ref (a 6), .ref (a 7), .ref (a 8), .ref (a 9), .ref (a 10), .int (I 15), .int (I 16), .int (I 17), .int (I 18), .int (I 19), .int (I 20), .int (I 21), .int (I 22), .int (I 23), .ref (a 11), .int (I 25), .ref (a 12), .ref (a 13), .ref (a 14), .ref (a 15), .ref (a 16)] : List Value).set 8 (.int v)))) = [zMo K a (va_up I 8 v) R] := rfl
theorem zMoI9 {K : zK} {a : Nat → Nat} {I : Nat → Int32} {R : Nat → Nat → Int32} {v : Int32} : ([zMo K a I R] : zB).set 0 ((zMo K a I R).set 0 (a 0, .inr (5, ([.ref (a 1), .ref (a 2), .ref (a 3), .int (I 3), .int (I 4), .int (I 5), .ref (a 4), .ref (a 5), .int (I 8), .int (I 9), .ref (a 6), .ref (a 7), .ref (a 8), .ref (a 9), .ref (a 10), .int (I 15), .int (I 16), .int (I 17), .int (I 18), .int (I 19), .int (I 20), .int (I 21), .int (I 22), .int (I 23), .ref (a 11), .int (I 25), .ref (a 12), .ref (a 13), .ref (a 14), .ref (a 15), .ref (a 16)] : List Value).set 9 (.int v)))) = [zMo K a (va_up I 9 v) R] := rfl
theorem zMoI15 {K : zK} {a : Nat → Nat} {I : Nat → Int32} {R : Nat → Nat → Int32} {v : Int32} : ([zMo K a I R] : zB).set 0 ((zMo K a I R).set 0 (a 0, .inr (5, ([.ref (a 1), .ref (a 2), .ref (a 3), .int (I 3), .int (I 4), .int (I 5), .ref (a 4), .ref (a 5), .int (I 8), .int (I 9), .ref (a 6), .ref (a 7), .ref (a 8), .ref (a 9), .ref (a 10), .int (I 15), .int (I 16), .int (I 17), .int (I 18), .int (I 19), .int (I 20), .int (I 21), .int (I 22), .int (I 23), .ref (a 11), .int (I 25), .ref (a 12), .ref (a 13), .ref (a 14), .ref (a 15), .ref (a 16)] : List Value).set 15 (.int v)))) = [zMo K a (va_up I 15 v) R] := rfl
theorem zMoI16 {K : zK} {a : Nat → Nat} {I : Nat → Int32} {R : Nat → Nat → Int32} {v : Int32} : ([zMo K a I R] : zB).set 0 ((zMo K a I R).set 0 (a 0, .inr (5, ([.ref (a 1), .ref (a 2), .ref (a 3), .int (I 3), .int (I 4), .int (I 5), .ref (a 4), .ref (a 5), .int (I 8), .int (I 9), .ref (a 6), .ref (a 7), .ref (a 8), .ref (a 9), .ref (a 10), .int (I 15), .int (I 16), .int (I 17), .int (I 18), .int (I 19), .int (I 20), .int (I 21), .int (I 22), .int (I 23), .ref (a 11), .int (I 25), .ref (a 12), .ref (a 13), .ref (a 14), .ref (a 15), .ref (a 16)] : List Value).set 16 (.int v)))) = [zMo K a (va_up I 16 v) R] := rfl
theorem zMoI17 {K : zK} {a : Nat → Nat} {I : Nat → Int32} {R : Nat → Nat → Int32} {v : Int32} : ([zMo K a I R] : zB).set 0 ((zMo K a I R).set 0 (a 0, .inr (5, ([.ref (a 1), .ref (a 2), .ref (a 3), .int (I 3), .int (I 4), .int (I 5), .ref (a 4), .ref (a 5), .int (I 8), .int (I 9), .ref (a 6), .ref (a 7), .ref (a 8), .ref (a 9), .ref (a 10), .int (I 15), .int (I 16), .int (I 17), .int (I 18), .int (I 19), .int (I 20), .int (I 21), .int (I 22), .int (I 23), .ref (a 11), .int (I 25), .ref (a 12), .ref (a 13), .ref (a 14), .ref (a 15), .ref (a 16)] : List Value).set 17 (.int v)))) = [zMo K a (va_up I 17 v) R] := rfl
theorem zMoI18 {K : zK} {a : Nat → Nat} {I : Nat → Int32} {R : Nat → Nat → Int32} {v : Int32} : ([zMo K a I R] : zB).set 0 ((zMo K a I R).set 0 (a 0, .inr (5, ([.ref (a 1), .ref (a 2), .ref (a 3), .int (I 3), .int (I 4), .int (I 5), .ref (a 4), .ref (a 5), .int (I 8), .int (I 9), .ref (a 6), .ref (a 7), .ref (a 8), .ref (a 9), .ref (a 10), .int (I 15), .int (I 16), .int (I 17), .int (I 18), .int (I 19), .int (I 20), .int (I 21), .int (I 22), .int (I 23), .ref (a 11), .int (I 25), .ref (a 12), .ref (a 13), .ref (a 14), .ref (a 15), .ref (a 16)] : List Value).set 18 (.int v)))) = [zMo K a (va_up I 18 v) R] := rfl
theorem zMoI19 {K : zK} {a : Nat → Nat} {I : Nat → Int32} {R : Nat → Nat → Int32} {v : Int32} : ([zMo K a I R] : zB).set 0 ((zMo K a I R).set 0 (a 0, .inr (5, ([.ref (a 1), .ref (a 2), .ref (a 3), .int (I 3), .int (I 4), .int (I 5), .ref (a 4), .ref (a 5), .int (I 8), .int (I 9), .ref (a 6), .ref (a 7), .ref (a 8), .ref (a 9), .ref (a 10), .int (I 15), .int (I 16), .int (I 17), .int (I 18), .int (I 19), .int (I 20), .int (I 21), .int (I 22), .int (I 23), .ref (a 11), .int (I 25), .ref (a 12), .ref (a 13), .ref (a 14), .ref (a 15), .ref (a 16)] : List Value).set 19 (.int v)))) = [zMo K a (va_up I 19 v) R] := rfl
theorem zMoI20 {K : zK} {a : Nat → Nat} {I : Nat → Int32} {R : Nat → Nat → Int32} {v : Int32} : ([zMo K a I R] : zB).set 0 ((zMo K a I R).set 0 (a 0, .inr (5, ([.ref (a 1), .ref (a 2), .ref (a 3), .int (I 3), .int (I 4), .int (I 5), .ref (a 4), .ref (a 5), .int (I 8), .int (I 9), .ref (a 6), .ref (a 7), .ref (a 8), .ref (a 9), .ref (a 10), .int (I 15), .int (I 16), .int (I 17), .int (I 18), .int (I 19), .int (I 20), .int (I 21), .int (I 22), .int (I 23), .ref (a 11), .int (I 25), .ref (a 12), .ref (a 13), .ref (a 14), .ref (a 15), .ref (a 16)] : List Value).set 20 (.int v)))) = [zMo K a (va_up I 20 v) R] := rfl
theorem zMoI21 {K : zK} {a : Nat → Nat} {I : Nat → Int32} {R : Nat → Nat → Int32} {v : Int32} : ([zMo K a I R] : zB).set 0 ((zMo K a I R).set 0 (a 0, .inr (5, ([.ref (a 1), .ref (a 2), .ref (a 3), .int (I 3), .int (I 4), .int (I 5), .ref (a 4), .ref (a 5), .int (I 8), .int (I 9), .ref (a 6), .ref (a 7), .ref (a 8), .ref (a 9), .ref (a 10), .int (I 15), .int (I 16), .int (I 17), .int (I 18), .int (I 19), .int (I 20), .int (I 21), .int (I 22), .int (I 23), .ref (a 11), .int (I 25), .ref (a 12), .ref (a 13), .ref (a 14), .ref (a 15), .ref (a 16)] : List Value).set 21 (.int v)))) = [zMo K a (va_up I 21 v) R] := rfl
theorem zMoI22 {K : zK} {a : Nat → Nat} {I : Nat → Int32} {R : Nat → Nat → Int32} {v : Int32} : ([zMo K a I R] : zB).set 0 ((zMo K a I R).set 0 (a 0, .inr (5, ([.ref (a 1), .ref (a 2), .ref (a 3), .int (I 3), .int (I 4), .int (I 5), .ref (a 4), .ref (a 5), .int (I 8), .int (I 9), .ref (a 6), .ref (a 7), .ref (a 8), .ref (a 9), .ref (a 10), .int (I 15), .int (I 16), .int (I 17), .int (I 18), .int (I 19), .int (I 20), .int (I 21), .int (I 22), .int (I 23), .ref (a 11), .int (I 25), .ref (a 12), .ref (a 13), .ref (a 14), .ref (a 15), .ref (a 16)] : List Value).set 22 (.int v)))) = [zMo K a (va_up I 22 v) R] := rfl
theorem zMoI23 {K : zK} {a : Nat → Nat} {I : Nat → Int32} {R : Nat → Nat → Int32} {v : Int32} : ([zMo K a I R] : zB).set 0 ((zMo K a I R).set 0 (a 0, .inr (5, ([.ref (a 1), .ref (a 2), .ref (a 3), .int (I 3), .int (I 4), .int (I 5), .ref (a 4), .ref (a 5), .int (I 8), .int (I 9), .ref (a 6), .ref (a 7), .ref (a 8), .ref (a 9), .ref (a 10), .int (I 15), .int (I 16), .int (I 17), .int (I 18), .int (I 19), .int (I 20), .int (I 21), .int (I 22), .int (I 23), .ref (a 11), .int (I 25), .ref (a 12), .ref (a 13), .ref (a 14), .ref (a 15), .ref (a 16)] : List Value).set 23 (.int v)))) = [zMo K a (va_up I 23 v) R] := rfl
theorem zMoI25 {K : zK} {a : Nat → Nat} {I : Nat → Int32} {R : Nat → Nat → Int32} {v : Int32} : ([zMo K a I R] : zB).set 0 ((zMo K a I R).set 0 (a 0, .inr (5, ([.ref (a 1), .ref (a 2), .ref (a 3), .int (I 3), .int (I 4), .int (I 5), .ref (a 4), .ref (a 5), .int (I 8), .int (I 9), .ref (a 6), .ref (a 7), .ref (a 8), .ref (a 9), .ref (a 10), .int (I 15), .int (I 16), .int (I 17), .int (I 18), .int (I 19), .int (I 20), .int (I 21), .int (I 22), .int (I 23), .ref (a 11), .int (I 25), .ref (a 12), .ref (a 13), .ref (a 14), .ref (a 15), .ref (a 16)] : List Value).set 25 (.int v)))) = [zMo K a (va_up I 25 v) R] := rfl

/-- what a fetch writes at the place i of the rows 6 to 10 -/
def zFe (T : Nat → Nat → Int32) (i : Nat) (k v lf en : Int32) : Nat → Nat → Int32 := va_up (va_up (va_up (va_up (va_up T 6 (upd (T 6) i k)) 7 (upd (T 7) i v)) 8 (upd (T 8) i lf)) 9 (upd (T 9) i en)) 10 (upd (T 10) i 0)
theorem z_mrL {I : Nat → Int32} {R : Nat → Nat → Int32} {x : Int32} : ∀ (n a : Nat) (g : Int32), ∃ g' : Nat, fX5_makeRoom_L8 I R x n a g = va_up R 6 (upd (R 6) g' 3)
  | 0, a, g => ⟨_, rfl⟩
  | n + 1, a, g => by
    rw [fX5_makeRoom_L8]
    split
    · exact z_mrL n (a + 1) _
    · split
      · exact z_mrL n (a + 1) _
      · split
        · exact z_mrL n (a + 1) _
        · exact z_mrL n (a + 1) _
theorem z_mr1 {I : Nat → Int32} {R : Nat → Nat → Int32} {x : Int32} : ∃ g' : Nat, fX5_makeRoom I R x = va_up R 6 (upd (R 6) g' 3) := z_mrL 16 0 (-3)
/-- the rows with room made -/
def zT6 (I : Nat → Int32) (R : Nat → Nat → Int32) (x y : Int32) : Nat → Nat → Int32 := if (R 6) (16 * x + y).toNatClampNeg = 3 then if fX5_size I R x = 6 then fX5_makeRoom I R x else R else R
theorem z_T6 {I : Nat → Int32} {R : Nat → Nat → Int32} {x y : Int32} : (∀ k, k ≠ 6 → zT6 I R x y k = R k) ∧ ∀ i, zT6 I R x y 6 i = R 6 i ∨ zT6 I R x y 6 i = 3 := by
  obtain ⟨g, hg⟩ := z_mr1 (I := I) (R := R) (x := x)
  unfold zT6
  split
  · split
    · rw [hg]
      refine ⟨fun k hk => by simp [va_up, hk], fun i => ?_⟩
      by_cases e : i = g
      · exact Or.inr (by simp [va_up, upd, e])
      · exact Or.inl (by simp [va_up, upd, e])
    · exact ⟨fun _ _ => rfl, fun _ => Or.inl rfl⟩
  · exact ⟨fun _ _ => rfl, fun _ => Or.inl rfl⟩
theorem z_mf (I : Nat → Int32) (R : Nat → Nat → Int32) (x y : Int32) : fX5_fetch I R x y = (va_up (va_up I 18 ((I 18) + 1)) 20 ((I 20) + 1), zFe (zT6 I R x y) (16 * x + y).toNatClampNeg ((R 1) y.toNatClampNeg) (if (R 1) y.toNatClampNeg = 2 then (-3) else (R 2) y.toNatClampNeg) (if (R 1) y.toNatClampNeg = 2 then I 3 else (R 3) y.toNatClampNeg) (I 8 + if (R 1) y.toNatClampNeg = 2 then I 3 else (R 3) y.toNatClampNeg)) := by
  obtain ⟨g, hg⟩ := z_mr1 (I := I) (R := R) (x := x)
  have us : ∀ (f : Nat → Int32) (i : Nat) (v : Int32), upd f i v i = v := fun f i v => by simp [upd]
  unfold fX5_fetch zT6
  by_cases c1 : (R 6) (16 * x + y).toNatClampNeg = 3
  · rw [if_pos c1, if_pos c1]
    by_cases c2 : fX5_size I R x = 6
    · rw [if_pos c2, if_pos c2, hg]
      unfold fX5_fetch_s3
      rw [us, us]
      by_cases c3 : (R 1) y.toNatClampNeg = 2
      · rw [if_pos c3, if_pos c3]
        exact if_pos c3
      · rw [if_neg c3, if_neg c3]
        exact if_neg c3
    · rw [if_neg c2, if_neg c2, us, us]
      by_cases c3 : (R 1) y.toNatClampNeg = 2
      · rw [if_pos c3, if_pos c3, if_pos c3]; rfl
      · rw [if_neg c3, if_neg c3, if_neg c3]; rfl
  · rw [if_neg c1, if_neg c1, us, us]
    by_cases c3 : (R 1) y.toNatClampNeg = 2
    · rw [if_pos c3, if_pos c3, if_pos c3]; rfl
    · rw [if_neg c3, if_neg c3, if_neg c3]; rfl
theorem z_fI {I : Nat → Int32} {R : Nat → Nat → Int32} {x y : Int32} {k : Nat} (h : k ≠ 18 ∧ k ≠ 20) : (fX5_fetch I R x y).1 k = I k := by
  rw [z_mf]
  simp [va_up, h.1, h.2]
theorem z_fR {I : Nat → Int32} {R : Nat → Nat → Int32} {x y : Int32} {k : Nat} (h : k < 6 ∨ 10 < k) : (fX5_fetch I R x y).2 k = R k := by
  rw [z_mf]
  have h1 : k ≠ 6 ∧ k ≠ 7 ∧ k ≠ 8 ∧ k ≠ 9 ∧ k ≠ 10 := by omega
  have h2 : zFe (zT6 I R x y) (16 * x + y).toNatClampNeg ((R 1) y.toNatClampNeg) (if (R 1) y.toNatClampNeg = 2 then (-3) else (R 2) y.toNatClampNeg) (if (R 1) y.toNatClampNeg = 2 then I 3 else (R 3) y.toNatClampNeg) (I 8 + if (R 1) y.toNatClampNeg = 2 then I 3 else (R 3) y.toNatClampNeg) k = zT6 I R x y k := by
    simp [zFe, va_up, h1]
  exact h2.trans (z_T6.1 k h1.1)
theorem z_fC {I : Nat → Int32} {R : Nat → Nat → Int32} {x y : Int32} (hn : vp_in y 16) (hZ : zwZ R) (hC : zwC R) : zwC (fX5_fetch I R x y).2 := by
  rw [z_mf]
  intro i hi h1
  have h1' : upd (zT6 I R x y 6) (16 * x + y).toNatClampNeg ((R 1) y.toNatClampNeg) i = 1 := h1
  show vp_in (upd (zT6 I R x y 7) (16 * x + y).toNatClampNeg (if (R 1) y.toNatClampNeg = 2 then (-3) else (R 2) y.toNatClampNeg) i) 16
  by_cases e : i = (16 * x + y).toNatClampNeg
  · subst e
    simp only [upd, if_true] at h1' ⊢
    rw [if_neg (by rw [h1']; decide)]
    exact (hZ _ (z_nat hn)).2 h1'
  · simp only [upd, if_neg e] at h1' ⊢
    rw [z_T6.1 7 (by decide)]
    rcases z_T6.2 i with q | q
    · exact hC i hi (q.symm.trans h1')
    · rw [q] at h1'; exact absurd h1' (by decide)
theorem z_Zs {R R' : Nat → Nat → Int32} (h1 : R' 1 = R 1) (h2 : R' 2 = R 2) (h : zwZ R) : zwZ R' := by
  unfold zwZ
  rw [h1, h2]
  exact h
theorem z_j8 {x : Int32} {a : Nat} (h : ∃ j, j ≤ a ∧ x = nI j) (ha : a < 8) : vp_in x 8 := by
  obtain ⟨j, hj, rfl⟩ := h
  exact vp_in_nI (by omega) (by decide)

def fX5_looksUp_s4 (I : Nat → Int32) (R : Nat → Nat → Int32) (x1 : Int32) (x2 : Int32) (o4 : (Nat → Int32) × (Nat → Nat → Int32)) : Int32 × (Nat → Int32) × (Nat → Nat → Int32) :=
  (1, (o4.1), (o4.2))
def fX5_looksUp_s10 (I : Nat → Int32) (R : Nat → Nat → Int32) (x1 : Int32) (x2 : Int32) (o10 : (Nat → Int32) × (Nat → Nat → Int32)) : Int32 × (Nat → Int32) × (Nat → Nat → Int32) :=
  (1, (o10.1), (o10.2))
def fX5_looksUp (I : Nat → Int32) (R : Nat → Nat → Int32) (x1 : Int32) (x2 : Int32) : Int32 × (Nat → Int32) × (Nat → Nat → Int32) :=
  if ((R 6) ((16 * x1) + x2).toNatClampNeg) = 3 then
    if (I 4) = 0 then
      if (I 16) = 0 then
        (0, (va_up (va_up I 16 0) 17 ((I 17) + 1)), R)
      else
        (0, (va_up (va_up I 16 1) 17 ((I 17) + 1)), R)
    else
      fX5_looksUp_s4 I R x1 x2 (fX5_fetch (va_up I 17 ((I 17) + 1)) R x1 x2)
  else
    if ((R 9) ((16 * x1) + x2).toNatClampNeg) ≤ (I 8) then
      if (I 4) = 0 then
        if 100 ≤ ((I 8) - ((R 9) ((16 * x1) + x2).toNatClampNeg)) then
          if (I 16) = 0 then
            (0, (va_up (va_up I 16 0) 17 ((I 17) + 1)), R)
          else
            (0, (va_up (va_up I 16 1) 17 ((I 17) + 1)), R)
        else
          if (I 16) = 0 then
            (1, (va_up (va_up I 16 1) 17 ((I 17) + 1)), R)
          else
            (1, (va_up (va_up I 16 1) 17 ((I 17) + 1)), R)
      else
        fX5_looksUp_s10 I R x1 x2 (fX5_fetch (va_up I 17 ((I 17) + 1)) R x1 x2)
    else
      (1, (va_up (va_up I 17 ((I 17) + 1)) 25 ((I 25) + 1)), (va_up (va_up R 10 (upd (R 10) ((16 * x1) + x2).toNatClampNeg (((R 10) ((16 * x1) + x2).toNatClampNeg) + 1))) 11 (upd (R 11) (I 25).toNatClampNeg x2)))
theorem hiX5_looksUp_5 : ∀ w ∈ wsX50, w ∈ wsX5_looksUp := by decide +kernel
theorem hfX5_looksUp_111 : Cond.fieldLink RX5 111 "ResolverFleetModel" "lastMany" "I" ∈ wsX5_looksUp := by decide +kernel
theorem hfX5_looksUp_26 : Cond.fieldLink RX5 26 "ResolverFleetModel" "told" "[I" ∈ wsX5_looksUp := by decide +kernel
theorem hfX5_looksUp_63 : Cond.fieldLink RX5 63 "ResolverFleetModel" "isUp" "Z" ∈ wsX5_looksUp := by decide +kernel
theorem hfX5_looksUp_121 : Cond.fieldLink RX5 121 "ResolverFleetModel" "lastStale" "Z" ∈ wsX5_looksUp := by decide +kernel
theorem hfX5_looksUp_95 : Cond.fieldLink RX5 95 "ResolverFleetModel" "now" "I" ∈ wsX5_looksUp := by decide +kernel
theorem hfX5_looksUp_35 : Cond.fieldLink RX5 35 "ResolverFleetModel" "ends" "[I" ∈ wsX5_looksUp := by decide +kernel
theorem hfX5_looksUp_38 : Cond.fieldLink RX5 38 "ResolverFleetModel" "hits" "[I" ∈ wsX5_looksUp := by decide +kernel
theorem hfX5_looksUp_41 : Cond.fieldLink RX5 41 "ResolverFleetModel" "fresh" "[I" ∈ wsX5_looksUp := by decide +kernel
theorem hfX5_looksUp_114 : Cond.fieldLink RX5 114 "ResolverFleetModel" "freshMany" "I" ∈ wsX5_looksUp := by decide +kernel
set_option maxHeartbeats 4000000 in
set_option maxRecDepth 100000 in
theorem kX5_looksUp (l : Launch) (hl : l.stackTraces = false) (K : zK) (am : Nat → Nat) (I : Nat → Int32) (R : Nat → Nat → Int32) (x1 : Int32) (x2 : Int32) (hs : vp_in x1 4) (hn : vp_in x2 16) (hf : vp_in (I 25) 8) : zMet l K yX5_looksUp wsX5_looksUp { frames := 2, cells := 0, slots := 0, locals := 46 } [.ref (am 0), .int x1, .int x2] [zMo K am I R] (some (.int ((fX5_looksUp I R x1 x2).1))) [zMo K am ((fX5_looksUp I R x1 x2).2.1) ((fX5_looksUp I R x1 x2).2.2)] True zNo := by
  refine zMeN.of (cc := cX5_looksUp) (maxL := 5) (ret := (some .boolean)) (own := RX5) (nm := "looksUp") hl (by decide +kernel) rfl rfl rfl (Nat.le_of_ble_eq_true rfl) (lv := [(0, .ref (am 0)), (1, .int x1), (2, .int x2)]) rfl ?_
  intro p e s m args below meth c A B
  refine z_bipush B (v := 16) dX5_looksUp_0 rfl ?_
  refine z_iload_n B dX5_looksUp_2 1 rfl ?_
  refine z_imul B dX5_looksUp_3 ?_
  refine z_iload_n B dX5_looksUp_4 2 rfl ?_
  refine z_iadd B dX5_looksUp_5 ?_
  refine z_istore_n B (lv' := [(3, .int ((16 * x1) + x2)), (0, .ref (am 0)), (1, .int x1), (2, .int x2)]) dX5_looksUp_6 (by decide) rfl ?_
  refine z_aload_n B dX5_looksUp_7 1 rfl ?_
  refine z_dup B dX5_looksUp_8 rfl ?_
  refine z_get B (v := .int (I 17)) 0 0 17 hiX5_looksUp_5 hfX5_looksUp_111 rfl rfl rfl (by decide) rfl rfl rfl rfl dX5_looksUp_9 ?_
  refine z_iconst B (v := 1) dX5_looksUp_12 rfl ?_
  refine z_iadd B dX5_looksUp_13 ?_
  refine z_put B 0 0 17 hiX5_looksUp_5 hfX5_looksUp_111 tyX5_ok nmX5 rfl rfl rfl (by decide) rfl rfl rfl rfl rfl rfl rfl (Nat.le_of_ble_eq_true rfl) (bs' := [zMo K am (va_up I 17 ((I 17) + 1)) R]) zMoI17 dX5_looksUp_14 ?_
  refine z_aload_n B dX5_looksUp_17 1 rfl ?_
  refine z_get B (v := .ref (am 6)) 0 0 10 hiX5_looksUp_5 hfX5_looksUp_26 rfl rfl rfl (by decide) rfl rfl rfl rfl dX5_looksUp_18 ?_
  refine z_iload_n B dX5_looksUp_21 0 rfl ?_
  refine z_iald B (N := 64) (f := (R 6)) 0 6 rfl rfl (z_ixn hs hn) dX5_looksUp_22 ?_
  refine z_iconst B (v := 3) dX5_looksUp_23 rfl ?_
  refine z_iceq B 72 dX5_looksUp_24 (by decide) (fun c1 => ?_) (fun c1 => ?_)
  · refine z_aload_n B dX5_looksUp_72 1 rfl ?_
    refine z_get B (v := .int (I 4)) 0 0 4 hiX5_looksUp_5 hfX5_looksUp_63 rfl rfl rfl (by decide) rfl rfl rfl rfl dX5_looksUp_73 ?_
    refine z_ifeq B 87 dX5_looksUp_76 (by decide) (fun c2 => ?_) (fun c2 => ?_)
    · refine z_aload_n B dX5_looksUp_87 1 rfl ?_
      refine z_get B (v := .ref (am 6)) 0 0 10 hiX5_looksUp_5 hfX5_looksUp_26 rfl rfl rfl (by decide) rfl rfl rfl rfl dX5_looksUp_88 ?_
      refine z_iload_n B dX5_looksUp_91 0 rfl ?_
      refine z_iald B (N := 64) (f := (R 6)) 0 6 rfl rfl (z_ixn hs hn) dX5_looksUp_92 ?_
      refine z_iconst B (v := 3) dX5_looksUp_93 rfl ?_
      refine z_iceq B 117 dX5_looksUp_94 (by decide) (fun _ => ?_) (fun h => absurd c1 h)
      refine z_iconst B (v := 0) dX5_looksUp_117 rfl ?_
      refine z_istore B (lv' := [(4, .int 0), (3, .int ((16 * x1) + x2)), (0, .ref (am 0)), (1, .int x1), (2, .int x2)]) dX5_looksUp_118 (by decide) rfl ?_
      refine z_aload_n B dX5_looksUp_120 2 rfl ?_
      refine z_aload_n B dX5_looksUp_121 2 rfl ?_
      refine z_get B (v := .int (I 16)) 0 0 16 hiX5_looksUp_5 hfX5_looksUp_121 rfl rfl rfl (by decide) rfl rfl rfl rfl dX5_looksUp_122 ?_
      refine z_ifne B 133 dX5_looksUp_125 (by decide) (fun c3 => ?_) (fun c3 => ?_)
      · refine z_iload B dX5_looksUp_128 0 rfl ?_
        refine z_ifeq B 137 dX5_looksUp_130 (by decide) (fun _ => ?_) (fun h => absurd (by decide) h)
        refine z_iconst B (v := 0) dX5_looksUp_137 rfl ?_
        refine z_put B 0 0 16 hiX5_looksUp_5 hfX5_looksUp_121 tyX5_ok nmX5 rfl rfl rfl (by decide) rfl rfl rfl rfl rfl rfl rfl (Nat.le_of_ble_eq_true rfl) (bs' := [zMo K am (va_up (va_up I 16 0) 17 ((I 17) + 1)) R]) rfl dX5_looksUp_138 ?_
        refine z_iload B dX5_looksUp_141 0 rfl ?_
        have hF : fX5_looksUp I R x1 x2 = (0, (va_up (va_up I 16 0) 17 ((I 17) + 1)), R) := (if_pos c1).trans ((if_pos c2).trans (if_pos c3))
        exact z_ret1 B rfl dX5_looksUp_143 () (trivial) (Nat.le_of_ble_eq_true rfl) (Nat.le_of_ble_eq_true rfl) (by rw [hF]) (by rw [hF])
      · refine z_iconst B (v := 1) dX5_looksUp_133 rfl ?_
        refine z_goto B (tgt := 138) dX5_looksUp_134 (by decide) ?_
        refine z_put B 0 0 16 hiX5_looksUp_5 hfX5_looksUp_121 tyX5_ok nmX5 rfl rfl rfl (by decide) rfl rfl rfl rfl rfl rfl rfl (Nat.le_of_ble_eq_true rfl) (bs' := [zMo K am (va_up (va_up I 16 1) 17 ((I 17) + 1)) R]) rfl dX5_looksUp_138 ?_
        refine z_iload B dX5_looksUp_141 0 rfl ?_
        have hF : fX5_looksUp I R x1 x2 = (0, (va_up (va_up I 16 1) 17 ((I 17) + 1)), R) := (if_pos c1).trans ((if_pos c2).trans (if_neg c3))
        exact z_ret1 B rfl dX5_looksUp_143 () (trivial) (Nat.le_of_ble_eq_true rfl) (Nat.le_of_ble_eq_true rfl) (by rw [hF]) (by rw [hF])
    · refine z_aload_n B dX5_looksUp_79 1 rfl ?_
      refine z_iload_n B dX5_looksUp_80 2 rfl ?_
      refine z_iload_n B dX5_looksUp_81 3 rfl ?_
      refine z_V0 B (kX5_fetch l hl K am (va_up I 17 ((I 17) + 1)) R x1 x2 hs hn) [0] [] (br := []) (bs' := [zMo K am ((fX5_fetch (va_up I 17 ((I 17) + 1)) R x1 x2).1) ((fX5_fetch (va_up I 17 ((I 17) + 1)) R x1 x2).2)]) (st := []) (nA := 2) (zsp rfl rfl rfl) (zsp rfl rfl rfl) 0 0 rfl rfl rfl rfl gX5_looksUp_X5_fetch rfl (by decide +kernel) ⟨Nat.le_of_ble_eq_true rfl, Nat.le_of_ble_eq_true rfl⟩ rfl rfl (Nat.le_of_ble_eq_true rfl) ⟨Nat.le_of_ble_eq_true rfl, Nat.le_of_ble_eq_true rfl⟩ dX5_looksUp_82 z_noX (fun _ => ?_)
      generalize ho4 : (fX5_fetch (va_up I 17 ((I 17) + 1)) R x1 x2) = o4
      refine z_iconst B (v := 1) dX5_looksUp_85 rfl ?_
      have hF : fX5_looksUp I R x1 x2 = (1, (o4.1), (o4.2)) := (if_pos c1).trans ((if_neg c2).trans (congrArg (fun o => fX5_looksUp_s4 I R x1 x2 o) ho4))
      exact z_ret1 B rfl dX5_looksUp_86 () (trivial) (Nat.le_of_ble_eq_true rfl) (Nat.le_of_ble_eq_true rfl) (by rw [hF]) (by rw [hF])
  · refine z_aload_n B dX5_looksUp_27 1 rfl ?_
    refine z_get B (v := .int (I 8)) 0 0 8 hiX5_looksUp_5 hfX5_looksUp_95 rfl rfl rfl (by decide) rfl rfl rfl rfl dX5_looksUp_28 ?_
    refine z_aload_n B dX5_looksUp_31 1 rfl ?_
    refine z_get B (v := .ref (am 9)) 0 0 13 hiX5_looksUp_5 hfX5_looksUp_35 rfl rfl rfl (by decide) rfl rfl rfl rfl dX5_looksUp_32 ?_
    refine z_iload_n B dX5_looksUp_35 0 rfl ?_
    refine z_iald B (N := 64) (f := (R 9)) 0 9 rfl rfl (z_ixn hs hn) dX5_looksUp_36 ?_
    refine z_icge B 72 dX5_looksUp_37 (by decide) (fun c5 => ?_) (fun c5 => ?_)
    · refine z_aload_n B dX5_looksUp_72 1 rfl ?_
      refine z_get B (v := .int (I 4)) 0 0 4 hiX5_looksUp_5 hfX5_looksUp_63 rfl rfl rfl (by decide) rfl rfl rfl rfl dX5_looksUp_73 ?_
      refine z_ifeq B 87 dX5_looksUp_76 (by decide) (fun c6 => ?_) (fun c6 => ?_)
      · refine z_aload_n B dX5_looksUp_87 1 rfl ?_
        refine z_get B (v := .ref (am 6)) 0 0 10 hiX5_looksUp_5 hfX5_looksUp_26 rfl rfl rfl (by decide) rfl rfl rfl rfl dX5_looksUp_88 ?_
        refine z_iload_n B dX5_looksUp_91 0 rfl ?_
        refine z_iald B (N := 64) (f := (R 6)) 0 6 rfl rfl (z_ixn hs hn) dX5_looksUp_92 ?_
        refine z_iconst B (v := 3) dX5_looksUp_93 rfl ?_
        refine z_iceq B 117 dX5_looksUp_94 (by decide) (fun h => absurd h c1) (fun _ => ?_)
        refine z_aload_n B dX5_looksUp_97 1 rfl ?_
        refine z_get B (v := .int (I 8)) 0 0 8 hiX5_looksUp_5 hfX5_looksUp_95 rfl rfl rfl (by decide) rfl rfl rfl rfl dX5_looksUp_98 ?_
        refine z_aload_n B dX5_looksUp_101 1 rfl ?_
        refine z_get B (v := .ref (am 9)) 0 0 13 hiX5_looksUp_5 hfX5_looksUp_35 rfl rfl rfl (by decide) rfl rfl rfl rfl dX5_looksUp_102 ?_
        refine z_iload_n B dX5_looksUp_105 0 rfl ?_
        refine z_iald B (N := 64) (f := (R 9)) 0 9 rfl rfl (z_ixn hs hn) dX5_looksUp_106 ?_
        refine z_isub B dX5_looksUp_107 ?_
        refine z_bipush B (v := 100) dX5_looksUp_108 rfl ?_
        refine z_icge B 117 dX5_looksUp_110 (by decide) (fun c7 => ?_) (fun c7 => ?_)
        · refine z_iconst B (v := 0) dX5_looksUp_117 rfl ?_
          refine z_istore B (lv' := [(4, .int 0), (3, .int ((16 * x1) + x2)), (0, .ref (am 0)), (1, .int x1), (2, .int x2)]) dX5_looksUp_118 (by decide) rfl ?_
          refine z_aload_n B dX5_looksUp_120 2 rfl ?_
          refine z_aload_n B dX5_looksUp_121 2 rfl ?_
          refine z_get B (v := .int (I 16)) 0 0 16 hiX5_looksUp_5 hfX5_looksUp_121 rfl rfl rfl (by decide) rfl rfl rfl rfl dX5_looksUp_122 ?_
          refine z_ifne B 133 dX5_looksUp_125 (by decide) (fun c8 => ?_) (fun c8 => ?_)
          · refine z_iload B dX5_looksUp_128 0 rfl ?_
            refine z_ifeq B 137 dX5_looksUp_130 (by decide) (fun _ => ?_) (fun h => absurd (by decide) h)
            refine z_iconst B (v := 0) dX5_looksUp_137 rfl ?_
            refine z_put B 0 0 16 hiX5_looksUp_5 hfX5_looksUp_121 tyX5_ok nmX5 rfl rfl rfl (by decide) rfl rfl rfl rfl rfl rfl rfl (Nat.le_of_ble_eq_true rfl) (bs' := [zMo K am (va_up (va_up I 16 0) 17 ((I 17) + 1)) R]) rfl dX5_looksUp_138 ?_
            refine z_iload B dX5_looksUp_141 0 rfl ?_
            have hF : fX5_looksUp I R x1 x2 = (0, (va_up (va_up I 16 0) 17 ((I 17) + 1)), R) := (if_neg c1).trans ((if_pos c5).trans ((if_pos c6).trans ((if_pos c7).trans (if_pos c8))))
            exact z_ret1 B rfl dX5_looksUp_143 () (trivial) (Nat.le_of_ble_eq_true rfl) (Nat.le_of_ble_eq_true rfl) (by rw [hF]) (by rw [hF])
          · refine z_iconst B (v := 1) dX5_looksUp_133 rfl ?_
            refine z_goto B (tgt := 138) dX5_looksUp_134 (by decide) ?_
            refine z_put B 0 0 16 hiX5_looksUp_5 hfX5_looksUp_121 tyX5_ok nmX5 rfl rfl rfl (by decide) rfl rfl rfl rfl rfl rfl rfl (Nat.le_of_ble_eq_true rfl) (bs' := [zMo K am (va_up (va_up I 16 1) 17 ((I 17) + 1)) R]) rfl dX5_looksUp_138 ?_
            refine z_iload B dX5_looksUp_141 0 rfl ?_
            have hF : fX5_looksUp I R x1 x2 = (0, (va_up (va_up I 16 1) 17 ((I 17) + 1)), R) := (if_neg c1).trans ((if_pos c5).trans ((if_pos c6).trans ((if_pos c7).trans (if_neg c8))))
            exact z_ret1 B rfl dX5_looksUp_143 () (trivial) (Nat.le_of_ble_eq_true rfl) (Nat.le_of_ble_eq_true rfl) (by rw [hF]) (by rw [hF])
        · refine z_iconst B (v := 1) dX5_looksUp_113 rfl ?_
          refine z_goto B (tgt := 118) dX5_looksUp_114 (by decide) ?_
          refine z_istore B (lv' := [(4, .int 1), (3, .int ((16 * x1) + x2)), (0, .ref (am 0)), (1, .int x1), (2, .int x2)]) dX5_looksUp_118 (by decide) rfl ?_
          refine z_aload_n B dX5_looksUp_120 2 rfl ?_
          refine z_aload_n B dX5_looksUp_121 2 rfl ?_
          refine z_get B (v := .int (I 16)) 0 0 16 hiX5_looksUp_5 hfX5_looksUp_121 rfl rfl rfl (by decide) rfl rfl rfl rfl dX5_looksUp_122 ?_
          refine z_ifne B 133 dX5_looksUp_125 (by decide) (fun c9 => ?_) (fun c9 => ?_)
          · refine z_iload B dX5_looksUp_128 0 rfl ?_
            refine z_ifeq B 137 dX5_looksUp_130 (by decide) (fun h => absurd h (by decide)) (fun _ => ?_)
            refine z_iconst B (v := 1) dX5_looksUp_133 rfl ?_
            refine z_goto B (tgt := 138) dX5_looksUp_134 (by decide) ?_
            refine z_put B 0 0 16 hiX5_looksUp_5 hfX5_looksUp_121 tyX5_ok nmX5 rfl rfl rfl (by decide) rfl rfl rfl rfl rfl rfl rfl (Nat.le_of_ble_eq_true rfl) (bs' := [zMo K am (va_up (va_up I 16 1) 17 ((I 17) + 1)) R]) rfl dX5_looksUp_138 ?_
            refine z_iload B dX5_looksUp_141 0 rfl ?_
            have hF : fX5_looksUp I R x1 x2 = (1, (va_up (va_up I 16 1) 17 ((I 17) + 1)), R) := (if_neg c1).trans ((if_pos c5).trans ((if_pos c6).trans ((if_neg c7).trans (if_pos c9))))
            exact z_ret1 B rfl dX5_looksUp_143 () (trivial) (Nat.le_of_ble_eq_true rfl) (Nat.le_of_ble_eq_true rfl) (by rw [hF]) (by rw [hF])
          · refine z_iconst B (v := 1) dX5_looksUp_133 rfl ?_
            refine z_goto B (tgt := 138) dX5_looksUp_134 (by decide) ?_
            refine z_put B 0 0 16 hiX5_looksUp_5 hfX5_looksUp_121 tyX5_ok nmX5 rfl rfl rfl (by decide) rfl rfl rfl rfl rfl rfl rfl (Nat.le_of_ble_eq_true rfl) (bs' := [zMo K am (va_up (va_up I 16 1) 17 ((I 17) + 1)) R]) rfl dX5_looksUp_138 ?_
            refine z_iload B dX5_looksUp_141 0 rfl ?_
            have hF : fX5_looksUp I R x1 x2 = (1, (va_up (va_up I 16 1) 17 ((I 17) + 1)), R) := (if_neg c1).trans ((if_pos c5).trans ((if_pos c6).trans ((if_neg c7).trans (if_neg c9))))
            exact z_ret1 B rfl dX5_looksUp_143 () (trivial) (Nat.le_of_ble_eq_true rfl) (Nat.le_of_ble_eq_true rfl) (by rw [hF]) (by rw [hF])
      · refine z_aload_n B dX5_looksUp_79 1 rfl ?_
        refine z_iload_n B dX5_looksUp_80 2 rfl ?_
        refine z_iload_n B dX5_looksUp_81 3 rfl ?_
        refine z_V0 B (kX5_fetch l hl K am (va_up I 17 ((I 17) + 1)) R x1 x2 hs hn) [0] [] (br := []) (bs' := [zMo K am ((fX5_fetch (va_up I 17 ((I 17) + 1)) R x1 x2).1) ((fX5_fetch (va_up I 17 ((I 17) + 1)) R x1 x2).2)]) (st := []) (nA := 2) (zsp rfl rfl rfl) (zsp rfl rfl rfl) 0 0 rfl rfl rfl rfl gX5_looksUp_X5_fetch rfl (by decide +kernel) ⟨Nat.le_of_ble_eq_true rfl, Nat.le_of_ble_eq_true rfl⟩ rfl rfl (Nat.le_of_ble_eq_true rfl) ⟨Nat.le_of_ble_eq_true rfl, Nat.le_of_ble_eq_true rfl⟩ dX5_looksUp_82 z_noX (fun _ => ?_)
        generalize ho10 : (fX5_fetch (va_up I 17 ((I 17) + 1)) R x1 x2) = o10
        refine z_iconst B (v := 1) dX5_looksUp_85 rfl ?_
        have hF : fX5_looksUp I R x1 x2 = (1, (o10.1), (o10.2)) := (if_neg c1).trans ((if_pos c5).trans ((if_neg c6).trans (congrArg (fun o => fX5_looksUp_s10 I R x1 x2 o) ho10)))
        exact z_ret1 B rfl dX5_looksUp_86 () (trivial) (Nat.le_of_ble_eq_true rfl) (Nat.le_of_ble_eq_true rfl) (by rw [hF]) (by rw [hF])
    · refine z_aload_n B dX5_looksUp_40 1 rfl ?_
      refine z_get B (v := .ref (am 10)) 0 0 14 hiX5_looksUp_5 hfX5_looksUp_38 rfl rfl rfl (by decide) rfl rfl rfl rfl dX5_looksUp_41 ?_
      refine z_iload_n B dX5_looksUp_44 0 rfl ?_
      refine z_dup2 B dX5_looksUp_45 rfl rfl ?_
      refine z_iald B (N := 64) (f := (R 10)) 0 10 rfl rfl (z_ixn hs hn) dX5_looksUp_46 ?_
      refine z_iconst B (v := 1) dX5_looksUp_47 rfl ?_
      refine z_iadd B dX5_looksUp_48 ?_
      refine z_iast B (N := 64) (f := (R 10)) 0 10 rfl rfl (z_ixn hs hn) (bs' := [zMo K am (va_up I 17 ((I 17) + 1)) (va_up R 10 (upd (R 10) ((16 * x1) + x2).toNatClampNeg (((R 10) ((16 * x1) + x2).toNatClampNeg) + 1)))]) zMoR10 dX5_looksUp_49 ?_
      refine z_aload_n B dX5_looksUp_50 1 rfl ?_
      refine z_get B (v := .ref (am 11)) 0 0 24 hiX5_looksUp_5 hfX5_looksUp_41 rfl rfl rfl (by decide) rfl rfl rfl rfl dX5_looksUp_51 ?_
      refine z_aload_n B dX5_looksUp_54 1 rfl ?_
      refine z_get B (v := .int (I 25)) 0 0 25 hiX5_looksUp_5 hfX5_looksUp_114 rfl rfl rfl (by decide) rfl rfl rfl rfl dX5_looksUp_55 ?_
      refine z_iload_n B dX5_looksUp_58 3 rfl ?_
      refine z_iast B (N := 8) (f := (R 11)) 0 11 rfl rfl hf (bs' := [zMo K am (va_up I 17 ((I 17) + 1)) (va_up (va_up R 10 (upd (R 10) ((16 * x1) + x2).toNatClampNeg (((R 10) ((16 * x1) + x2).toNatClampNeg) + 1))) 11 (upd (R 11) (I 25).toNatClampNeg x2))]) zMoR11 dX5_looksUp_59 ?_
      refine z_aload_n B dX5_looksUp_60 1 rfl ?_
      refine z_dup B dX5_looksUp_61 rfl ?_
      refine z_get B (v := .int (I 25)) 0 0 25 hiX5_looksUp_5 hfX5_looksUp_114 rfl rfl rfl (by decide) rfl rfl rfl rfl dX5_looksUp_62 ?_
      refine z_iconst B (v := 1) dX5_looksUp_65 rfl ?_
      refine z_iadd B dX5_looksUp_66 ?_
      refine z_put B 0 0 25 hiX5_looksUp_5 hfX5_looksUp_114 tyX5_ok nmX5 rfl rfl rfl (by decide) rfl rfl rfl rfl rfl rfl rfl (Nat.le_of_ble_eq_true rfl) (bs' := [zMo K am (va_up (va_up I 17 ((I 17) + 1)) 25 ((I 25) + 1)) (va_up (va_up R 10 (upd (R 10) ((16 * x1) + x2).toNatClampNeg (((R 10) ((16 * x1) + x2).toNatClampNeg) + 1))) 11 (upd (R 11) (I 25).toNatClampNeg x2))]) zMoI25 dX5_looksUp_67 ?_
      refine z_iconst B (v := 1) dX5_looksUp_70 rfl ?_
      have hF : fX5_looksUp I R x1 x2 = (1, (va_up (va_up I 17 ((I 17) + 1)) 25 ((I 25) + 1)), (va_up (va_up R 10 (upd (R 10) ((16 * x1) + x2).toNatClampNeg (((R 10) ((16 * x1) + x2).toNatClampNeg) + 1))) 11 (upd (R 11) (I 25).toNatClampNeg x2))) := (if_neg c1).trans (if_neg c5)
      exact z_ret1 B rfl dX5_looksUp_71 () (trivial) (Nat.le_of_ble_eq_true rfl) (Nat.le_of_ble_eq_true rfl) (by rw [hF]) (by rw [hF])
theorem z_lkR {I : Nat → Int32} {R : Nat → Nat → Int32} {x y : Int32} {k : Nat} (h : k < 6 ∨ 11 < k) : (fX5_looksUp I R x y).2.2 k = R k := by
  have hf : (fX5_fetch (va_up I 17 ((I 17) + 1)) R x y).2 k = R k := z_fR (by omega)
  unfold fX5_looksUp
  split
  · split
    · split <;> rfl
    · exact hf
  · split
    · split
      · split
        · split <;> rfl
        · split <;> rfl
      · exact hf
    · have h1 : k ≠ 10 ∧ k ≠ 11 := by omega
      simp [va_up, h1]
theorem z_lkI {I : Nat → Int32} {R : Nat → Nat → Int32} {x y : Int32} {k : Nat} (h : k < 16 ∨ k = 19 ∨ (20 < k ∧ k < 25)) : (fX5_looksUp I R x y).2.1 k = I k := by
  have hk : k ≠ 16 ∧ k ≠ 17 ∧ k ≠ 25 ∧ k ≠ 18 ∧ k ≠ 20 := by omega
  have hf : (fX5_fetch (va_up I 17 ((I 17) + 1)) R x y).1 k = I k := (z_fI ⟨hk.2.2.2.1, hk.2.2.2.2⟩).trans (by simp [va_up, hk])
  unfold fX5_looksUp
  split
  · split
    · split <;> simp [va_up, hk]
    · exact hf
  · split
    · split
      · split
        · split <;> simp [va_up, hk]
        · split <;> simp [va_up, hk]
      · exact hf
    · simp [va_up, hk]
theorem z_lkZ {I : Nat → Int32} {R : Nat → Nat → Int32} {x y : Int32} (h : zwZ R) : zwZ (fX5_looksUp I R x y).2.2 := z_Zs (z_lkR (by omega)) (z_lkR (by omega)) h
theorem z_lkC {I : Nat → Int32} {R : Nat → Nat → Int32} {x y : Int32} (hs : vp_in x 4) (hn : vp_in y 16) (hZ : zwZ R) (hC : zwC R) : zwC (fX5_looksUp I R x y).2.2 := by
  have hf : zwC (fX5_fetch (va_up I 17 ((I 17) + 1)) R x y).2 := z_fC hn hZ hC
  unfold fX5_looksUp
  split
  · split
    · split <;> exact hC
    · exact hf
  · split
    · split
      · split
        · split <;> exact hC
        · split <;> exact hC
      · exact hf
    · exact hC
theorem z_lkN {I : Nat → Int32} {R : Nat → Nat → Int32} {x y : Int32} (hs : vp_in x 4) (hn : vp_in y 16) (hZ : zwZ R) (hC : zwC R) (h : ((fX5_looksUp I R x y).2.2 6) (16 * x + y).toNatClampNeg = 1) : vp_in (((fX5_looksUp I R x y).2.2 7) (16 * x + y).toNatClampNeg) 16 := z_lkC hs hn hZ hC _ (z_nat (z_ixn hs hn)) h
/-- the fresh names: at most a of them, each a name -/
def zwF (a : Nat) (I : Nat → Int32) (R : Nat → Nat → Int32) : Prop := ∃ j, j ≤ a ∧ I 25 = nI j ∧ ∀ k, k < j → vp_in ((R 11) k) 16
theorem z_lkF {I : Nat → Int32} {R : Nat → Nat → Int32} {x y : Int32} {a : Nat} (h : ∃ j, j ≤ a ∧ I 25 = nI j) : ∃ j, j ≤ a + 1 ∧ (fX5_looksUp I R x y).2.1 25 = nI j := by
  obtain ⟨j, hj, ej⟩ := h
  have hf : (fX5_fetch (va_up I 17 ((I 17) + 1)) R x y).1 25 = nI j := (z_fI (by decide)).trans ej
  have g : ∃ j, j ≤ a + 1 ∧ I 25 = nI j := ⟨j, by omega, ej⟩
  unfold fX5_looksUp
  split
  · split
    · split <;> exact g
    · exact ⟨j, by omega, hf⟩
  · split
    · split
      · split
        · split <;> exact g
        · split <;> exact g
      · exact ⟨j, by omega, hf⟩
    · exact ⟨j + 1, by omega, by show I 25 + 1 = _; rw [ej, nI_1]⟩
theorem z_lkW {I : Nat → Int32} {R : Nat → Nat → Int32} {x y : Int32} {a : Nat} (hn : vp_in y 16) (ha : a < 8) (h : zwF a I R) : zwF (a + 1) (fX5_looksUp I R x y).2.1 (fX5_looksUp I R x y).2.2 := by
  obtain ⟨j, hj, ej, hr⟩ := h
  have hf : (fX5_fetch (va_up I 17 ((I 17) + 1)) R x y).1 25 = nI j := (z_fI (by decide)).trans ej
  have hf2 : (fX5_fetch (va_up I 17 ((I 17) + 1)) R x y).2 11 = R 11 := z_fR (by omega)
  have g : zwF (a + 1) I R := ⟨j, by omega, ej, hr⟩
  have gf : zwF (a + 1) (fX5_fetch (va_up I 17 ((I 17) + 1)) R x y).1 (fX5_fetch (va_up I 17 ((I 17) + 1)) R x y).2 := ⟨j, by omega, hf, by rw [hf2]; exact hr⟩
  unfold fX5_looksUp
  split
  · split
    · split <;> exact g
    · exact gf
  · split
    · split
      · split
        · split <;> exact g
        · split <;> exact g
      · exact gf
    · refine ⟨j + 1, by omega, by show I 25 + 1 = _; rw [ej, nI_1], fun k hk => ?_⟩
      show vp_in (upd (R 11) (I 25).toNatClampNeg y k) 16
      rw [ej, nI_clamp (by omega)]
      unfold upd
      by_cases e : k = j
      · rw [if_pos e]; exact hn
      · rw [if_neg e]; exact hr k (by omega)

def fX5_resolve_L5 (I : Nat → Int32) (R : Nat → Nat → Int32) (x1 : Int32) (x2 : Int32) : Nat → Nat → (Int32) → (Nat → Int32) → (Nat → Nat → Int32) → Int32 × (Nat → Int32) × (Nat → Nat → Int32)
  | 0, a, nx, I1, R1 =>
    ((-2), I1, R1)
  | n + 1, a, nx, I1, R1 =>
    if ((fX5_looksUp I1 R1 x1 nx).1) = 0 then
      ((-2), ((fX5_looksUp I1 R1 x1 nx).2.1), ((fX5_looksUp I1 R1 x1 nx).2.2))
    else
      if ((((fX5_looksUp I1 R1 x1 nx).2.2) 6) ((16 * x1) + nx).toNatClampNeg) = 1 then
        fX5_resolve_L5 I R x1 x2 n (a + 1) ((((fX5_looksUp I1 R1 x1 nx).2.2) 7) ((16 * x1) + nx).toNatClampNeg) ((fX5_looksUp I1 R1 x1 nx).2.1) ((fX5_looksUp I1 R1 x1 nx).2.2)
      else
        if ((((fX5_looksUp I1 R1 x1 nx).2.2) 6) ((16 * x1) + nx).toNatClampNeg) = 0 then
          (((((fX5_looksUp I1 R1 x1 nx).2.2) 7) ((16 * x1) + nx).toNatClampNeg), ((fX5_looksUp I1 R1 x1 nx).2.1), ((fX5_looksUp I1 R1 x1 nx).2.2))
        else
          ((-1), ((fX5_looksUp I1 R1 x1 nx).2.1), ((fX5_looksUp I1 R1 x1 nx).2.2))
def fX5_resolve (I : Nat → Int32) (R : Nat → Nat → Int32) (x1 : Int32) (x2 : Int32) : Int32 × (Nat → Int32) × (Nat → Nat → Int32) :=
  fX5_resolve_L5 I R x1 x2 5 0 x2 I R
theorem hiX5_resolve_5 : ∀ w ∈ wsX50, w ∈ wsX5_resolve := by decide +kernel
theorem hfX5_resolve_26 : Cond.fieldLink RX5 26 "ResolverFleetModel" "told" "[I" ∈ wsX5_resolve := by decide +kernel
theorem hfX5_resolve_29 : Cond.fieldLink RX5 29 "ResolverFleetModel" "tells" "[I" ∈ wsX5_resolve := by decide +kernel
set_option maxHeartbeats 4000000 in
set_option maxRecDepth 100000 in
theorem kX5_resolve_L5 (l : Launch) (hl : l.stackTraces = false) (K : zK) (am : Nat → Nat) (I : Nat → Int32) (R : Nat → Nat → Int32) (x1 : Int32) (x2 : Int32) (hs : vp_in x1 4) (hn : vp_in x2 16) (hZ : zwZ R) (hC : zwC R) (hf0 : (I 25) = 0) {p : Program} {e : Env} {s : State} {m : MethodId} {args : Array Value} {below : List Frame} {meth : Method} {c : Code} {A : Nat → Prop} (B : zF K p l s m args meth c A cX5_resolve 6 RX5 "resolve" wsX5_resolve (some .int) []) : ∀ (n a : Nat) (nx : Int32) (I1 : Nat → Int32) (R1 : Nat → Nat → Int32), a + n = 5 → (vp_in nx 16) → (zwZ R1) → (zwC R1) → (∃ j, j ≤ a ∧ (I1 25) = nI j) → fX5_resolve I R x1 x2 = fX5_resolve_L5 I R x1 x2 n a nx I1 R1 → zW K p l e { frames := 3, cells := 0, slots := 0, locals := 70 } s m args below meth c A (vx_MQ below (zQ K A (fun _ : Unit => ((some (.int ((fX5_resolve I R x1 x2).1))), [zMo K am ((fX5_resolve I R x1 x2).2.1) ((fX5_resolve I R x1 x2).2.2)])) (fun _ => True)) (zX K A [zMo K am I R] zNo) args s 0 0 A) 0 0 [zMo K am I1 R1] [(0, .ref (am 0)), (1, .int x1), (2, .int x2), (3, .int nx), (4, .int (nI a))] [] 5 := by
  intro n
  induction n with
  | zero =>
    intro a nx I1 R1 ha hnx hZ1 hC1 hfm hF0
    refine z_iload B dX5_resolve_5 4 rfl ?_
    refine z_iconst B (v := 4) dX5_resolve_7 rfl ?_
    refine z_icgt B 78 dX5_resolve_8 (by decide) (fun _ => ?_) (fun h => absurd (z_lgt0 ha (by decide)) h)
    refine z_bipush B (v := (-2)) dX5_resolve_78 rfl ?_
    have hF : fX5_resolve I R x1 x2 = ((-2), I1, R1) := hF0
    exact z_ret1 B rfl dX5_resolve_80 () (trivial) (Nat.le_of_ble_eq_true rfl) (Nat.le_of_ble_eq_true rfl) (by rw [hF]) (by rw [hF])
  | succ n ih =>
    intro a nx I1 R1 ha hnx hZ1 hC1 hfm hF0
    refine z_iload B dX5_resolve_5 4 rfl ?_
    refine z_iconst B (v := 4) dX5_resolve_7 rfl ?_
    refine z_icgt B 78 dX5_resolve_8 (by decide) (fun h => absurd h (z_lgtS ha (by decide))) (fun _ => ?_)
    refine z_aload_n B dX5_resolve_11 0 rfl ?_
    refine z_iload_n B dX5_resolve_12 1 rfl ?_
    refine z_iload_n B dX5_resolve_13 3 rfl ?_
    refine z_V1 B (kX5_looksUp l hl K am I1 R1 x1 nx hs hnx (z_j8 hfm (by omega))) [0] [] (br := []) (bs' := [zMo K am ((fX5_looksUp I1 R1 x1 nx).2.1) ((fX5_looksUp I1 R1 x1 nx).2.2)]) (st := []) (nA := 2) (zsp rfl rfl rfl) (zsp rfl rfl rfl) 0 0 rfl rfl rfl rfl gX5_resolve_X5_looksUp rfl (by decide +kernel) ⟨Nat.le_of_ble_eq_true rfl, Nat.le_of_ble_eq_true rfl⟩ rfl rfl (Nat.le_of_ble_eq_true rfl) ⟨Nat.le_of_ble_eq_true rfl, Nat.le_of_ble_eq_true rfl⟩ dX5_resolve_14 z_noX (fun _ => ?_)
    refine z_ifne B 23 dX5_resolve_17 (by decide) (fun c1 => ?_) (fun c1 => ?_)
    · refine z_bipush B (v := (-2)) dX5_resolve_20 rfl ?_
      have hF : fX5_resolve I R x1 x2 = ((-2), ((fX5_looksUp I1 R1 x1 nx).2.1), ((fX5_looksUp I1 R1 x1 nx).2.2)) := (hF0).trans (if_pos c1)
      exact z_ret1 B rfl dX5_resolve_22 () (trivial) (Nat.le_of_ble_eq_true rfl) (Nat.le_of_ble_eq_true rfl) (by rw [hF]) (by rw [hF])
    · refine z_bipush B (v := 16) dX5_resolve_23 rfl ?_
      refine z_iload_n B dX5_resolve_25 1 rfl ?_
      refine z_imul B dX5_resolve_26 ?_
      refine z_iload_n B dX5_resolve_27 3 rfl ?_
      refine z_iadd B dX5_resolve_28 ?_
      refine z_istore B (lv' := [(5, .int ((16 * x1) + nx)), (0, .ref (am 0)), (1, .int x1), (2, .int x2), (3, .int nx), (4, .int (nI a))]) dX5_resolve_29 (by decide) rfl ?_
      refine z_aload_n B dX5_resolve_31 1 rfl ?_
      refine z_get B (v := .ref (am 6)) 0 0 10 hiX5_resolve_5 hfX5_resolve_26 rfl rfl rfl (by decide) rfl rfl rfl rfl dX5_resolve_32 ?_
      refine z_iload B dX5_resolve_35 0 rfl ?_
      refine z_iald B (N := 64) (f := (((fX5_looksUp I1 R1 x1 nx).2.2) 6)) 0 6 rfl rfl (z_ixn hs hnx) dX5_resolve_37 ?_
      refine z_iconst B (v := 1) dX5_resolve_38 rfl ?_
      refine z_iceq B 64 dX5_resolve_39 (by decide) (fun c2 => ?_) (fun c2 => ?_)
      · refine z_aload_n B dX5_resolve_64 1 rfl ?_
        refine z_get B (v := .ref (am 7)) 0 0 11 hiX5_resolve_5 hfX5_resolve_29 rfl rfl rfl (by decide) rfl rfl rfl rfl dX5_resolve_65 ?_
        refine z_iload B dX5_resolve_68 0 rfl ?_
        refine z_iald B (N := 64) (f := (((fX5_looksUp I1 R1 x1 nx).2.2) 7)) 0 7 rfl rfl (z_ixn hs hnx) dX5_resolve_70 ?_
        refine z_istore_n B (lv' := [(3, .int ((((fX5_looksUp I1 R1 x1 nx).2.2) 7) ((16 * x1) + nx).toNatClampNeg)), (5, .int ((16 * x1) + nx)), (0, .ref (am 0)), (1, .int x1), (2, .int x2), (4, .int (nI a))]) dX5_resolve_71 (by decide) rfl ?_
        refine z_iinc B (v := nI (a + 1)) (lv' := [(4, .int (nI (a + 1))), (3, .int ((((fX5_looksUp I1 R1 x1 nx).2.2) 7) ((16 * x1) + nx).toNatClampNeg)), (5, .int ((16 * x1) + nx)), (0, .ref (am 0)), (1, .int x1), (2, .int x2)]) dX5_resolve_72 5 rfl (nI_1 a) (by decide) rfl ?_
        refine z_goto B (tgt := 5) dX5_resolve_75 (by decide) ?_
        refine z_lsub [3, 4, 5, 1, 0] rfl ?_
        have hF : fX5_resolve I R x1 x2 = fX5_resolve_L5 I R x1 x2 n (a + 1) ((((fX5_looksUp I1 R1 x1 nx).2.2) 7) ((16 * x1) + nx).toNatClampNeg) ((fX5_looksUp I1 R1 x1 nx).2.1) ((fX5_looksUp I1 R1 x1 nx).2.2) := (hF0).trans ((if_neg c1).trans (if_pos c2))
        exact ih (a + 1) ((((fX5_looksUp I1 R1 x1 nx).2.2) 7) ((16 * x1) + nx).toNatClampNeg) ((fX5_looksUp I1 R1 x1 nx).2.1) ((fX5_looksUp I1 R1 x1 nx).2.2) (by omega) (z_lkN hs hnx hZ1 hC1 c2) (z_lkZ hZ1) (z_lkC hs hnx hZ1 hC1) (z_lkF hfm) hF
      · refine z_aload_n B dX5_resolve_42 1 rfl ?_
        refine z_get B (v := .ref (am 6)) 0 0 10 hiX5_resolve_5 hfX5_resolve_26 rfl rfl rfl (by decide) rfl rfl rfl rfl dX5_resolve_43 ?_
        refine z_iload B dX5_resolve_46 0 rfl ?_
        refine z_iald B (N := 64) (f := (((fX5_looksUp I1 R1 x1 nx).2.2) 6)) 0 6 rfl rfl (z_ixn hs hnx) dX5_resolve_48 ?_
        refine z_ifne B 62 dX5_resolve_49 (by decide) (fun c3 => ?_) (fun c3 => ?_)
        · refine z_aload_n B dX5_resolve_52 1 rfl ?_
          refine z_get B (v := .ref (am 7)) 0 0 11 hiX5_resolve_5 hfX5_resolve_29 rfl rfl rfl (by decide) rfl rfl rfl rfl dX5_resolve_53 ?_
          refine z_iload B dX5_resolve_56 0 rfl ?_
          refine z_iald B (N := 64) (f := (((fX5_looksUp I1 R1 x1 nx).2.2) 7)) 0 7 rfl rfl (z_ixn hs hnx) dX5_resolve_58 ?_
          refine z_goto B (tgt := 63) dX5_resolve_59 (by decide) ?_
          have hF : fX5_resolve I R x1 x2 = (((((fX5_looksUp I1 R1 x1 nx).2.2) 7) ((16 * x1) + nx).toNatClampNeg), ((fX5_looksUp I1 R1 x1 nx).2.1), ((fX5_looksUp I1 R1 x1 nx).2.2)) := (hF0).trans ((if_neg c1).trans ((if_neg c2).trans (if_pos c3)))
          exact z_ret1 B rfl dX5_resolve_63 () (trivial) (Nat.le_of_ble_eq_true rfl) (Nat.le_of_ble_eq_true rfl) (by rw [hF]) (by rw [hF])
        · refine z_iconst B (v := (-1)) dX5_resolve_62 rfl ?_
          have hF : fX5_resolve I R x1 x2 = ((-1), ((fX5_looksUp I1 R1 x1 nx).2.1), ((fX5_looksUp I1 R1 x1 nx).2.2)) := (hF0).trans ((if_neg c1).trans ((if_neg c2).trans (if_neg c3)))
          exact z_ret1 B rfl dX5_resolve_63 () (trivial) (Nat.le_of_ble_eq_true rfl) (Nat.le_of_ble_eq_true rfl) (by rw [hF]) (by rw [hF])
set_option maxHeartbeats 4000000 in
set_option maxRecDepth 100000 in
theorem kX5_resolve (l : Launch) (hl : l.stackTraces = false) (K : zK) (am : Nat → Nat) (I : Nat → Int32) (R : Nat → Nat → Int32) (x1 : Int32) (x2 : Int32) (hs : vp_in x1 4) (hn : vp_in x2 16) (hZ : zwZ R) (hC : zwC R) (hf0 : (I 25) = 0) : zMet l K yX5_resolve wsX5_resolve { frames := 3, cells := 0, slots := 0, locals := 70 } [.ref (am 0), .int x1, .int x2] [zMo K am I R] (some (.int ((fX5_resolve I R x1 x2).1))) [zMo K am ((fX5_resolve I R x1 x2).2.1) ((fX5_resolve I R x1 x2).2.2)] True zNo := by
  refine zMeN.of (cc := cX5_resolve) (maxL := 6) (ret := (some .int)) (own := RX5) (nm := "resolve") hl (by decide +kernel) rfl rfl rfl (Nat.le_of_ble_eq_true rfl) (lv := [(0, .ref (am 0)), (1, .int x1), (2, .int x2)]) rfl ?_
  intro p e s m args below meth c A B
  refine z_iload_n B dX5_resolve_0 2 rfl ?_
  refine z_istore_n B (lv' := [(3, .int x2), (0, .ref (am 0)), (1, .int x1), (2, .int x2)]) dX5_resolve_1 (by decide) rfl ?_
  refine z_iconst B (v := 0) dX5_resolve_2 rfl ?_
  refine z_istore B (lv' := [(4, .int 0), (3, .int x2), (0, .ref (am 0)), (1, .int x1), (2, .int x2)]) dX5_resolve_3 (by decide) rfl ?_
  refine z_lsub [2, 3, 4, 1, 0] rfl ?_
  have hF : fX5_resolve I R x1 x2 = fX5_resolve_L5 I R x1 x2 5 0 x2 I R := rfl
  exact kX5_resolve_L5 l hl K am I R x1 x2 hs hn hZ hC hf0 B 5 0 x2 I R (by omega) hn hZ hC ⟨0, Nat.le_refl _, hf0⟩ hF

