/-! MORE OF THE LAYER: division, bits, constants, rows read at a number, blocks put aside, rows that agree on their places -/
theorem z_div {a b : Nat} (ha : a < 2 ^ 31) (h0 : 0 < b) (hb : b < 2 ^ 31) : nI a / nI b = nI (a / b) := by
  rw [← Int32.toInt_inj, Int32.toInt_div_of_ne_right, nI_toInt ha, nI_toInt hb, nI_toInt (Nat.lt_of_le_of_lt (Nat.div_le_self a b) ha)]
  · exact (Int.tdiv_eq_ediv_of_nonneg (Int.natCast_nonneg a)).trans (Int.natCast_ediv a b).symm
  · intro h
    have h2 := congrArg Int32.toInt h
    rw [nI_toInt hb] at h2
    have : (-1 : Int32).toInt = -1 := rfl
    omega
theorem z_rem {a b : Nat} (ha : a < 2 ^ 31) (h0 : 0 < b) (hb : b < 2 ^ 31) : nI a - nI a / nI b * nI b = nI (a % b) := by
  rw [z_div ha h0 hb]
  have h : nI (a / b) * nI b = nI (a / b * b) := pk_mul _ _
  rw [h]
  have h2 : nI (a % b) + nI (a / b * b) = nI a := by
    rw [nI_add, Nat.mul_comm, Nat.mod_add_div]
  rw [← h2, Int32.add_sub_cancel]
theorem z_and31 {x : Int32} : ∃ c : Nat, c < 2 ^ 31 ∧ (x &&& 2147483647) = nI c := by
  refine ⟨(x &&& 2147483647).toInt.toNat, ?_, ?_⟩
  · have := Int32.toInt_lt (x &&& 2147483647)
    omega
  · have h : ¬ (x &&& 2147483647) < 0 := by
      rw [Int32.lt_iff_toInt_lt]
      have e : (0 : Int32).toInt = 0 := rfl
      rw [e]
      have h3 : (x &&& 2147483647).toBitVec.msb = false := by
        show (x.toBitVec &&& (2147483647 : Int32).toBitVec).msb = false
        rw [BitVec.msb_and]
        have : (2147483647 : Int32).toBitVec.msb = false := by decide +kernel
        rw [this, Bool.and_false]
      have h4 : 0 ≤ (x &&& 2147483647).toBitVec.toInt := by
        rw [BitVec.toInt_eq_toNat_of_msb h3]
        exact Int.natCast_nonneg _
      exact Int.not_lt.mpr h4
    obtain ⟨j, hj, e⟩ := nI_of h
    rw [e, nI_toInt hj]
    rfl
theorem z_cellx {cA : ClassId} {N : Nat} {f g : Nat → Int32} (h : ∀ t, t < N → f t = g t) : vp_cell cA (N, .inl f) = vp_cell cA (N, .inl g) := by
  rw [vp_cell_i, vp_cell_i]
  unfold arrV
  congr 1
  exact congrArg Array.ofFn (funext fun j => congrArg Value.int (h j.val j.isLt))
section ZY
variable {K : zK} {p : Program} {l : Launch} {e : Env} {R : Room} {s : State} {m : MethodId} {args : Array Value} {below : List Frame} {meth : Method} {c : Code} {A : Nat → Prop} {Q : State → Prop} {k n : Nat} {bs : zB} {lv : List (Nat × Value)} {st : List Value} {pc : Nat}
variable {cc : ByteArray} {nL : Nat} {own nm : String} {Ts : List Cond} {ret : Option FieldType} {tb : List ExceptionTableEntry}
theorem z_tope {x y : Int32} (h : x = y) (kk : zW K p l e R s m args below meth c A Q k n bs lv (.int y :: st) pc) : zW K p l e R s m args below meth c A Q k n bs lv (.int x :: st) pc := h ▸ kk
theorem z_iaddN (B : zF K p l s m args meth c A cc nL own nm Ts ret tb) {a b : Nat} (d : decode cc pc = .ok (.iadd, 1)) (kk : zW K p l e R s m args below meth c A Q k n bs lv (.int (nI (a + b)) :: st) (pc + 1)) : zW K p l e R s m args below meth c A Q k n bs lv (.int (nI b) :: .int (nI a) :: st) pc :=
  z_iadd B d (by rw [nI_add]; exact kk)
theorem z_imulN (B : zF K p l s m args meth c A cc nL own nm Ts ret tb) {a b : Nat} (d : decode cc pc = .ok (.imul, 1)) (kk : zW K p l e R s m args below meth c A Q k n bs lv (.int (nI (a * b)) :: st) (pc + 1)) : zW K p l e R s m args below meth c A Q k n bs lv (.int (nI b) :: .int (nI a) :: st) pc :=
  z_imul B d (by rw [pk_mul]; exact kk)
theorem z_idivN (B : zF K p l s m args meth c A cc nL own nm Ts ret tb) {a b : Nat} (ha : a < 2 ^ 31) (h0 : 0 < b) (hb : b < 2 ^ 31) (d : decode cc pc = .ok (.idiv, 1)) (kk : zW K p l e R s m args below meth c A Q k n bs lv (.int (nI (a / b)) :: st) (pc + 1)) : zW K p l e R s m args below meth c A Q k n bs lv (.int (nI b) :: .int (nI a) :: st) pc :=
  fun H locs ls hP hD hS h => lv_idiv B.1.1 B.1.2.1 d (nI_ne0 h0 hb) (by rw [z_div ha h0 hb]; exact kk H locs ls hP hD hS h)
theorem z_iremN (B : zF K p l s m args meth c A cc nL own nm Ts ret tb) {a b : Nat} (ha : a < 2 ^ 31) (h0 : 0 < b) (hb : b < 2 ^ 31) (d : decode cc pc = .ok (.irem, 1)) (kk : zW K p l e R s m args below meth c A Q k n bs lv (.int (nI (a % b)) :: st) (pc + 1)) : zW K p l e R s m args below meth c A Q k n bs lv (.int (nI b) :: .int (nI a) :: st) pc :=
  fun H locs ls hP hD hS h => lv_irem B.1.1 B.1.2.1 d (nI_ne0 h0 hb) (by rw [z_rem ha h0 hb]; exact kk H locs ls hP hD hS h)
theorem z_ior (B : zF K p l s m args meth c A cc nL own nm Ts ret tb) {x y : Int32} (d : decode cc pc = .ok (.ior, 1)) (kk : zW K p l e R s m args below meth c A Q k n bs lv (.int (x ||| y) :: st) (pc + 1)) : zW K p l e R s m args below meth c A Q k n bs lv (.int y :: .int x :: st) pc :=
  fun H locs ls hP hD hS h => lv_ior B.1.1 B.1.2.1 d (kk H locs ls hP hD hS h)
theorem z_ixor (B : zF K p l s m args meth c A cc nL own nm Ts ret tb) {x y : Int32} (d : decode cc pc = .ok (.ixor, 1)) (kk : zW K p l e R s m args below meth c A Q k n bs lv (.int (x ^^^ y) :: st) (pc + 1)) : zW K p l e R s m args below meth c A Q k n bs lv (.int y :: .int x :: st) pc :=
  fun H locs ls hP hD hS h => lv_ixor B.1.1 B.1.2.1 d (kk H locs ls hP hD hS h)
theorem z_ishl (B : zF K p l s m args meth c A cc nL own nm Ts ret tb) {x y : Int32} (d : decode cc pc = .ok (.ishl, 1)) (kk : zW K p l e R s m args below meth c A Q k n bs lv (.int (x <<< (y &&& 31)) :: st) (pc + 1)) : zW K p l e R s m args below meth c A Q k n bs lv (.int y :: .int x :: st) pc :=
  fun H locs ls hP hD hS h => lv_ishl B.1.1 B.1.2.1 d (kk H locs ls hP hD hS h)
theorem z_ishr (B : zF K p l s m args meth c A cc nL own nm Ts ret tb) {x y : Int32} (d : decode cc pc = .ok (.ishr, 1)) (kk : zW K p l e R s m args below meth c A Q k n bs lv (.int (x >>> (y &&& 31)) :: st) (pc + 1)) : zW K p l e R s m args below meth c A Q k n bs lv (.int y :: .int x :: st) pc :=
  fun H locs ls hP hD hS h => lv_ishr B.1.1 B.1.2.1 d (kk H locs ls hP hD hS h)
theorem z_ldc (B : zF K p l s m args meth c A cc nL own nm Ts ret tb) {index : Nat} {v : Int32} (hw : Cond.constant own index v ∈ Ts) (d : decode cc pc = .ok (.ldc index, 2)) (kk : zW K p l e R s m args below meth c A Q k n bs lv (.int v :: st) (pc + 2)) : zW K p l e R s m args below meth c A Q k n bs lv st pc :=
  fun H locs ls hP hD hS h => lv_ldc B.1.1 B.1.2.1 B.1.2.2.2.1 (B.1.2.2.2.2 _ hw) d (kk H locs ls hP hD hS h)
theorem z_ialdn (B : zF K p l s m args meth c A cc nL own nm Ts ret tb) {a N : Nat} {f : Nat → Int32} {b : va_W} (q j : Nat) (hb : bs[q]? = some b) (he : b[j]? = some (a, .inl (zI K, N, .inl f))) {i v : Int32} {k0 : Nat} (hin : vp_in i N) (hk0 : i.toNatClampNeg = k0) (hv : f k0 = v) (d : decode cc pc = .ok (.iaload, 1))
    (kk : zW K p l e R s m args below meth c A Q k n bs lv (.int v :: st) (pc + 1)) : zW K p l e R s m args below meth c A Q k n bs lv (.int i :: .ref a :: st) pc :=
  z_iald B q j hb he hin d (by rw [hk0, hv]; exact kk)
theorem z_iastn (B : zF K p l s m args meth c A cc nL own nm Ts ret tb) {a N : Nat} {f : Nat → Int32} {b : va_W} (q j : Nat) (hb : bs[q]? = some b) (he : b[j]? = some (a, .inl (zI K, N, .inl f))) {i x : Int32} {k0 : Nat} (hin : vp_in i N) (hk0 : i.toNatClampNeg = k0) {bs' : zB} (hbs : bs.set q (b.set j (a, .inl (zI K, N, .inl (upd f k0 x)))) = bs') (d : decode cc pc = .ok (.iastore, 1))
    (kk : zW K p l e R s m args below meth c A Q k n bs' lv st (pc + 1)) : zW K p l e R s m args below meth c A Q k n bs lv (.int x :: .int i :: .ref a :: st) pc :=
  z_iast B q j hb he hin (by rw [hk0]; exact hbs) d kk
/-- blocks that nothing needs any more -/
theorem z_drop {bc br : zB} {isC isR : List Nat} (hs : zSp bs bc br isC isR) (kk : zW K p l e R s m args below meth c A Q k n bc lv st pc) : zW K p l e R s m args below meth c A Q k n bs lv st pc := by
  intro H locs ls hP hD hS h
  have hP' := z_Pp hs.pm hP
  have hD' := z_D.mp (z_Dp hs.pm hD)
  rw [List.flatten_append] at hP' hD'
  refine kk H locs ls (z_P.mpr fun q hq => z_P.mp hP' q (List.mem_append_left _ hq)) (z_D.mpr ⟨?_, fun q hq => hD'.2 q (List.mem_append_left _ hq)⟩) hS h
  have h1 := hD'.1
  rw [List.map_append, List.nodup_append] at h1
  exact h1.1
/-- a row of ints read as another that agrees on its places -/
theorem z_ext {a N : Nat} {f g : Nat → Int32} {b : va_W} (q j : Nat) (hb : bs[q]? = some b) (he : b[j]? = some (a, .inl (zI K, N, .inl f))) (hfg : ∀ t, t < N → f t = g t) {bs' : zB} (hbs : bs.set q (b.set j (a, .inl (zI K, N, .inl g))) = bs') (kk : zW K p l e R s m args below meth c A Q k n bs' lv st pc) : zW K p l e R s m args below meth c A Q k n bs lv st pc := by
  subst hbs
  intro H locs ls hP hD hS h
  obtain ⟨P, hq, hset⟩ := z_fl bs q j b _ (a, .inl (zI K, N, .inl g)) hb he
  have hl := (List.getElem?_eq_some_iff.mp hq).1
  have key : ∀ (t : Nat) (x : Nat × va_E), (bs.flatten.set P (a, .inl (zI K, N, .inl g)))[t]? = some x → ∃ y, bs.flatten[t]? = some y ∧ y.1 = x.1 ∧ (va_at K.1 vwCl y H → va_at K.1 vwCl x H) := by
    intro t x hx
    by_cases e : t = P
    · subst e
      rw [List.getElem?_set_self hl] at hx
      cases hx
      refine ⟨_, hq, rfl, fun h1 => ?_⟩
      show H[a]? = some (vp_cell (zI K) (N, .inl g))
      rw [← z_cellx hfg]
      exact h1
    · rw [List.getElem?_set_ne (Ne.symm e)] at hx
      exact ⟨x, hx, rfl, id⟩
  refine kk H locs ls ?_ ?_ hS h
  · rw [hset]
    intro t x hx
    obtain ⟨y, h1, -, h2⟩ := key t x hx
    exact h2 (hP t y h1)
  · rw [hset]
    refine ⟨fun i j p q hi hj hpq => ?_, fun t x hx => ?_⟩
    · obtain ⟨y, h1, e1, -⟩ := key i p hi
      obtain ⟨z, h2, e2, -⟩ := key j q hj
      exact hD.1 i j y z h1 h2 (by rw [e1, e2]; exact hpq)
    · obtain ⟨y, h1, e1, -⟩ := key t x hx
      rw [← e1]
      exact hD.2 t y h1
end ZY
