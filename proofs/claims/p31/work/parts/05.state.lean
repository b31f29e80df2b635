/-! THE STATE: blocks of cells and the functions that they are read off. A row of ints is a function of Nat; an object's int fields are a function of the field's place. -/
/-- a cache: rows 0 kinds, 1 values, 2 lives, 3 ends, 4 hits; row 5 at 0: its size -/
def zCa (K : zK) (a : Nat → Nat) (C : Nat → Nat → Int32) : va_W := [(a 0, .inr (0, [.ref (a 1), .ref (a 2), .ref (a 3), .ref (a 4), .ref (a 5), .int (C 5 0)])), (a 1, .inl (zI K, 16, .inl (C 0))), (a 2, .inl (zI K, 16, .inl (C 1))), (a 3, .inl (zI K, 16, .inl (C 2))), (a 4, .inl (zI K, 16, .inl (C 3))), (a 5, .inl (zI K, 16, .inl (C 4)))]
/-- a course: F the fresh names; O 1 freshCount, 2 lookUps, 3 fetches, 4 prefetches, 5 isStale -/
def zCo (K : zK) (a : Nat → Nat) (F : Nat → Int32) (O : Nat → Int32) : va_W := [(a 0, .inr (1, [.ref (a 1), .int (O 1), .int (O 2), .int (O 3), .int (O 4), .int (O 5)])), (a 1, .inl (zI K, 5, .inl F))]
/-- the zone: rows 0 kinds, 1 values, 2 lives; O 3 bound, 4 isUp -/
def zZo (K : zK) (a : Nat → Nat) (Z : Nat → Nat → Int32) (O : Nat → Int32) : va_W := [(a 0, .inr (3, [.ref (a 1), .ref (a 2), .ref (a 3), .int (O 3), .int (O 4)])), (a 1, .inl (zI K, 16, .inl (Z 0))), (a 2, .inl (zI K, 16, .inl (Z 1))), (a 3, .inl (zI K, 16, .inl (Z 2)))]
/-- the fleet's own object: X 2 siteCount, 3 now, 5 lastSiteNumber, 8 queries, 9 fetches, 10 prefetches, 11 stale, 12 failures -/
def zXo (a z sa la tr tc : Nat) (X : Nat → Int32) : va_W := [(a, .inr (4, [.ref z, .ref sa, .int (X 2), .int (X 3), .ref la, .int (X 5), .ref tr, .ref tc, .int (X 8), .int (X 9), .int (X 10), .int (X 11), .int (X 12)]))]
def zSa (K : zK) (a : Nat) (f : Nat → Option Nat) : va_W := [(a, .inl (zS K, 4, .inr (.inr (.inr (.inr f)))))]
/-- the sites' own objects, n of them, at so i, their caches at sc i 0: D 0 number, 1 position, 3 isAnnounced -/
def zSi (a ca : Nat) (d : Nat → Int32) : Nat × va_E := (a, .inr (2, [.int (d 0), .int (d 1), .ref ca, .int (d 3)]))
def zSO (n : Nat) (so : Nat → Nat) (sc : Nat → Nat → Nat) (D : Nat → Nat → Int32) : va_W := (List.range n).map (fun i => zSi (so i) (sc i 0) (D i))
/-- their caches -/
def zSC (K : zK) (n : Nat) (sc : Nat → Nat → Nat) (Cs : Nat → Nat → Nat → Int32) : va_W := ((List.range n).map (fun i => zCa K (sc i) (Cs i))).flatten
theorem z_vp {x M : Int32} {N : Nat} (hM : M.toInt = N) (h1 : ¬ x < 0) (h2 : ¬ M ≤ x) : vp_in x N := by
  rw [vp_in_iff]
  rw [Int32.lt_iff_toInt_lt] at h1
  rw [Int32.le_iff_toInt_le, hM] at h2
  have e : (0 : Int32).toInt = 0 := rfl
  rw [e] at h1
  exact ⟨by omega, by omega⟩
theorem z_vpc {x : Int32} {N k : Nat} (hx : x.toInt = k) (h : k < N) : vp_in x N := by
  rw [vp_in_iff, hx]
  exact ⟨by omega, by omega⟩
theorem z_nz {x : Int32} (h : x = 0 ∨ x = 1) : narrow .boolean (.int x) = .int x := by rcases h with rfl | rfl <;> rfl
theorem z_fz {x : Int32} (h : x = 0 ∨ x = 1) : fits .boolean (.int x) = true := by rcases h with rfl | rfl <;> rfl
theorem zSO_get {n i : Nat} {so : Nat → Nat} {sc : Nat → Nat → Nat} {D : Nat → Nat → Int32} (h : i < n) : (zSO n so sc D)[i]? = some (zSi (so i) (sc i 0) (D i)) := by
  unfold zSO
  rw [List.getElem?_map, List.getElem?_range h]
  rfl
theorem z_vp2 {x M : Int32} {N : Nat} (hM : M.toInt = N) (h1 : ¬ x < 0) (h2 : x < M) : vp_in x N := by
  rw [Int32.lt_iff_toInt_lt] at h1 h2
  rw [hM] at h2
  have e : (0 : Int32).toInt = 0 := rfl
  rw [e] at h1
  exact vp_in_iff.mpr ⟨by omega, by omega⟩
theorem z_vn {x : Int32} (h : x = 0 ∨ x = 1) : vp_nar .boolean x = x := by rcases h with rfl | rfl <;> rfl
theorem zsp {bs bc br : zB} {isC isR : List Nat} (h1 : isC.filterMap (fun i => bs[i]?) = bc) (h2 : isR.filterMap (fun i => bs[i]?) = br) (h3 : (isC ++ isR).isPerm (List.range bs.length) = true) : zSp bs bc br isC isR := ⟨h1, h2, h3⟩
section ZR2
variable {K : zK} {p : Program} {l : Launch} {e : Env} {R : Room} {s : State} {m : MethodId} {args : Array Value} {below : List Frame} {meth : Method} {c : Code} {A : Nat → Prop} {Q : State → Prop} {k n : Nat} {bs : zB} {lv : List (Nat × Value)} {st : List Value} {pc : Nat}
variable {cc : ByteArray} {nL : Nat} {own nm : String} {Ts : List Cond} {ret : Option FieldType} {tb : List ExceptionTableEntry}
theorem z_abs (B : zF K p l s m args meth c A cc nL own nm Ts ret tb) {index : Nat} {x : Int32} (hl : Cond.methodLink own index Lib.Math.abs.name ∈ Ts) (hst : Cond.static Lib.Math.abs.name ∈ Ts) (hi : Cond.initialized "java/lang/Math" ∈ Ts) (hc : Cond.code Lib.Math.abs.name Lib.Math.abs.code 1 (some .int) ∈ Ts) (hf : 1 ≤ R.frames) (hlo : (st.map fun v => v.category).sum + 13 ≤ R.locals) (hk : k ≤ R.cells) (hn : n ≤ R.slots) (d : decode cc pc = .ok (.invokestatic index, 3))
    (kk : zW K p l e R s m args below meth c A Q k n bs lv (.int (if 0 ≤ x then x else 0 - x) :: st) (pc + 3)) : zW K p l e R s m args below meth c A Q k n bs lv (.int x :: st) pc :=
  fun H locs ls hP hD hS h => va_mabs B.1.1 B.1.2.1 h.1.symm B.1.2.2.2.1 (B.1.2.2.2.2 _ hl) (B.1.2.2.2.2 _ hst) (B.1.2.2.2.2 _ hi) (B.1.2.2.2.2 _ hc) hf hlo hk hn d (kk H locs ls hP hD hS h)
theorem z_copyI (B : zF K p l s m args meth c A cc nL own nm Ts ret tb) {index a0 a1 : Nat} {f g : Nat → Int32} {b0 b1 : va_W} (hl : Cond.methodLink own index arraycopyName ∈ Ts) (hna : Cond.native arraycopyName ∈ Ts) (hst : Cond.static arraycopyName ∈ Ts) (hi : Cond.initialized "java/lang/System" ∈ Ts) (q0 j0 q1 j1 : Nat) (hb0 : bs[q0]? = some b0) (he0 : b0[j0]? = some (a0, .inl (zI K, 16, .inl f))) (hb1 : bs[q1]? = some b1) (he1 : b1[j1]? = some (a1, .inl (zI K, 16, .inl g))) {bs' : zB} (hbs : bs.set q1 (b1.set j1 (a1, .inl (zI K, 16, .inl (va_cpy f g 0 0 16)))) = bs')
    (hf : 1 ≤ R.frames) (hlo : (st.map fun v => v.category).sum + (nativeFrameWords "java/lang/System" "arraycopy" 5 + 11) ≤ R.locals) (d : decode cc pc = .ok (.invokestatic index, 3))
    (kk : zW K p l e R s m args below meth c A Q k n bs' lv st (pc + 3)) : zW K p l e R s m args below meth c A Q k n bs lv (.int 16 :: .int 0 :: .ref a1 :: .int 0 :: .ref a0 :: st) pc := by
  subst hbs
  intro H locs ls hP hD hS h
  obtain ⟨P0, hq0⟩ := z_at hb0 he0
  obtain ⟨P1, hq1, hset⟩ := z_fl bs q1 j1 b1 _ (a1, .inl (zI K, 16, .inl (va_cpy f g 0 0 16))) hb1 he1
  refine va_copyi (D := K.1) B.1.1 B.1.2.1 h.1.symm B.1.2.2.2.1 (B.1.2.2.2.2 _ hl) (B.1.2.2.2.2 _ hna) (B.1.2.2.2.2 _ hst) (B.1.2.2.2.2 _ hi) B.2.1 hP hD hS P0 P1 0 0 hq0 hq1 rfl rfl rfl (by decide) (by decide) (by decide) (by decide) (by decide) (fun _ _ => rfl) hf hlo d (fun H1 locs1 hP1 hD1 hS1 => ?_)
  rw [show Int32.toNatClampNeg 0 = 0 from rfl, show Int32.toNatClampNeg 16 = 16 from rfl, ← hset] at hP1 hD1
  exact kk H1 locs1 ls hP1 hD1 hS1 h
end ZR2
theorem z_lge0 {a N : Nat} (h : a + 0 = N) (hN : N < 2 ^ 31) : nI N ≤ nI a := nI_le (by omega) (by omega)
theorem z_lgeS {a n N : Nat} (h : a + (n + 1) = N) (hN : N < 2 ^ 31) : ¬ nI N ≤ nI a := nI_ge (by omega) hN
theorem z_lgt0 {a N : Nat} (h : a + 0 = N + 1) (hN : N + 1 < 2 ^ 31) : nI N < nI a := nI_lt (by omega) (by omega)
theorem z_lgtS {a n N : Nat} (h : a + (n + 1) = N + 1) (hN : N + 1 < 2 ^ 31) : ¬ nI N < nI a := nI_nlt (by omega) (by omega)
theorem z_nIr {a N : Nat} (h : a < N) (hN : N < 2 ^ 31) : vp_in (nI a) N := vp_in_nI h hN
theorem z_of {x : Int32} {N : Nat} (h : x < 0 ∨ vp_in x N) (h0 : ¬ x < 0) : vp_in x N := h.resolve_left h0
