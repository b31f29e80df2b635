/-! THE LAW: its script, its switch, its end; one site's cache out of the list of all -/
section ZL
variable {K : zK} {p : Program} {l : Launch} {e : Env} {R : Room} {s : State} {m : MethodId} {args : Array Value} {below : List Frame} {meth : Method} {c : Code} {A : Nat → Prop} {Q : State → Prop} {k n : Nat} {bs : zB} {lv : List (Nat × Value)} {st : List Value} {pc : Nat}
variable {cc : ByteArray} {nL : Nat} {own nm : String} {Ts : List Cond} {ret : Option FieldType} {tb : List ExceptionTableEntry}
theorem z_sld (B : zF K p l s m args meth c A cc nL own nm Ts ret tb) {b L : Nat} {xs : Nat → Int32} (hX : va_X b L xs s s.heap) (hbl : b < s.heap.size) (hbA : ¬ A b) {i v : Int32} (hin : vp_in i L) (hv : xs i.toNatClampNeg = v) (d : decode cc pc = .ok (.iaload, 1))
    (kk : zW K p l e R s m args below meth c A Q k n bs lv (.int v :: st) (pc + 1)) : zW K p l e R s m args below meth c A Q k n bs lv (.int i :: .ref b :: st) pc := by
  subst hv
  exact fun H locs ls hP hD hS h => va_sld B.1.1 B.1.2.1 hX hbl hbA hS hin d (kk H locs ls hP hD hS h)
theorem z_slen (B : zF K p l s m args meth c A cc nL own nm Ts ret tb) {b L : Nat} {xs : Nat → Int32} (hX : va_X b L xs s s.heap) (hbl : b < s.heap.size) (hbA : ¬ A b) (d : decode cc pc = .ok (.arraylength, 1))
    (kk : zW K p l e R s m args below meth c A Q k n bs lv (.int (nI L) :: st) (pc + 1)) : zW K p l e R s m args below meth c A Q k n bs lv (.ref b :: st) pc :=
  fun H locs ls hP hD hS h => va_slen B.1.1 B.1.2.1 hX hbl hbA hS d (kk H locs ls hP hD hS h)
theorem z_tsI (B : zF K p l s m args meth c A cc nL own nm Ts ret tb) {dflt lo hi : Int} {offs : Array Int} {len : Nat} {x : Int32} {off : Int} (tgt : Nat) (d : decode cc pc = .ok (.tableswitch dflt lo hi offs, len)) (h1 : ¬ x.toInt < lo) (h2 : ¬ hi < x.toInt) (ho : offs[(x.toInt - lo).toNat]? = some off) (ht : (pc : Int) + off = (tgt : Int))
    (kk : zW K p l e R s m args below meth c A Q k n bs lv st tgt) : zW K p l e R s m args below meth c A Q k n bs lv (.int x :: st) pc :=
  fun H locs ls hP hD hS h => lv_tableIn B.1.1 B.1.2.1 d h1 h2 ho ht (kk H locs ls hP hD hS h)
theorem z_tsO (B : zF K p l s m args meth c A cc nL own nm Ts ret tb) {dflt lo hi : Int} {offs : Array Int} {len : Nat} {x : Int32} (tgt : Nat) (d : decode cc pc = .ok (.tableswitch dflt lo hi offs, len)) (hx : x.toInt < lo ∨ hi < x.toInt) (ht : (pc : Int) + dflt = (tgt : Int))
    (kk : zW K p l e R s m args below meth c A Q k n bs lv st tgt) : zW K p l e R s m args below meth c A Q k n bs lv (.int x :: st) pc :=
  fun H locs ls hP hD hS h => lv_tableOut B.1.1 B.1.2.1 d hx ht (kk H locs ls hP hD hS h)
end ZL
/-- the caches but the one at i -/
def zSX (K : zK) (n : Nat) (sc : Nat → Nat → Nat) (Cs : Nat → Nat → Nat → Int32) (i : Nat) : va_W := (((List.range n).erase i).map (fun k => zCa K (sc k) (Cs k))).flatten
theorem zSC_split {K : zK} {n i : Nat} {sc : Nat → Nat → Nat} {Cs : Nat → Nat → Nat → Int32} (hi : i < n) : (zSC K n sc Cs).Perm (zCa K (sc i) (Cs i) ++ zSX K n sc Cs i) := by
  unfold zSC zSX
  exact ((List.perm_cons_erase (List.mem_range.mpr hi)).map _).flatten
theorem zSX_up {K : zK} {n i : Nat} {sc : Nat → Nat → Nat} {Cs : Nat → Nat → Nat → Int32} {C : Nat → Nat → Int32} : zSX K n sc (va_up Cs i C) i = zSX K n sc Cs i := by
  unfold zSX
  refine congrArg List.flatten (List.map_congr_left fun k hk => ?_)
  have hne : k ≠ i := fun e => by
    subst e
    exact (List.nodup_range.not_mem_erase) hk
  rw [va_up_ne _ _ hne]
theorem zSC_join {K : zK} {n i : Nat} {sc : Nat → Nat → Nat} {Cs : Nat → Nat → Nat → Int32} {C : Nat → Nat → Int32} (hi : i < n) : (zSC K n sc (va_up Cs i C)).Perm (zCa K (sc i) C ++ zSX K n sc Cs i) := by
  have h := zSC_split (K := K) (sc := sc) (Cs := va_up Cs i C) hi
  rw [va_up_self, zSX_up] at h
  exact h
