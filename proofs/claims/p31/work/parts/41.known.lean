/-! THE START: what the law's entry knows of classes, arrays, exceptions -/
theorem zs_int {args : Array Value} {s : State} (h : (Cond.arrayClass .int).before args s = true) : ∃ cA : ClassId, ArrOfT s cA .int ∧ va_RA s cA .int := by
  obtain ⟨cA, kA, comp, h1, h2, h3⟩ := Cond.arrayClass_spec h
  exact ⟨cA, fun n z => ⟨fun k h => (by cases h), kA, h2, comp, h3⟩, h1⟩
theorem zs_over {args : Array Value} {s : State} {C : String} (h : (Cond.arrayOver (.object C)).before args s = true) : ∃ cA : ClassId, ArrOfT s cA (.object C) ∧ va_RA s cA (.object C) := by
  obtain ⟨comp, cA, kA, h1, h2, h3, h4, h5⟩ := Cond.arrayOver_spec h
  exact ⟨cA, fun n z => ⟨fun k h => (by cases h), kA, h3, comp, h4⟩, kA, comp, h3, h4, h1, h5⟩
theorem zs_n0 : Cond.instantiable RX0 6 ∈ lw_tbl := by decide +kernel
theorem zs_n1 : Cond.instantiable RX1 6 ∈ lw_tbl := by decide +kernel
theorem zs_n2 : Cond.instantiable RX2 4 ∈ lw_tbl := by decide +kernel
theorem zs_n3 : Cond.instantiable RX3 5 ∈ lw_tbl := by decide +kernel
theorem zs_n4 : Cond.instantiable RX4 13 ∈ lw_tbl := by decide +kernel
theorem zs_aI : Cond.arrayClass .int ∈ lw_tbl := by decide +kernel
theorem zs_aS : Cond.arrayOver (.object RX2) ∈ lw_tbl := by decide +kernel
theorem zs_C {s : State} {args : Array Value} (hts : ∀ w ∈ lw_tbl, w.before args s = true) : ∃ (dC : Nat → ClassId) (dI : Nat → Nat → Nat), ∀ (k : Nat) (q : vw_C), vwCl[k]? = some q → u_Kn s q.1 q.2.1 q.2.2 (dC k) (dI k) := by
  obtain ⟨c0, i0, h0⟩ := u_known (C := RX0) (T := TX0) (N := 6) (n := 6) hts in_wsX00 (hts _ zs_n0)
  obtain ⟨c1, i1, h1⟩ := u_known (C := RX1) (T := TX1) (N := 6) (n := 6) hts in_wsX10 (hts _ zs_n1)
  obtain ⟨c2, i2, h2⟩ := u_known (C := RX2) (T := TX2) (N := 4) (n := 4) hts in_wsX20 (hts _ zs_n2)
  obtain ⟨c3, i3, h3⟩ := u_known (C := RX3) (T := TX3) (N := 5) (n := 5) hts in_wsX30 (hts _ zs_n3)
  obtain ⟨c4, i4, h4⟩ := u_known (C := RX4) (T := TX4) (N := 13) (n := 13) hts in_wsX40 (hts _ zs_n4)
  refine ⟨fun k => match k with | 0 => c0 | 1 => c1 | 2 => c2 | 3 => c3 | _ => c4, fun k => match k with | 0 => i0 | 1 => i1 | 2 => i2 | 3 => i3 | _ => i4, ?_⟩
  intro k q hq
  match k, hq with
  | 0, hq => cases hq; exact h0
  | 1, hq => cases hq; exact h1
  | 2, hq => cases hq; exact h2
  | 3, hq => cases hq; exact h3
  | 4, hq => cases hq; exact h4
  | k + 5, hq => simp [vwCl] at hq
theorem zs_K {s : State} {args : Array Value} (hts : ∀ w ∈ lw_tbl, w.before args s = true) : ∃ K : zK, va_K K.1 vwCl (zty K) s := by
  obtain ⟨dC, dI, hC⟩ := zs_C hts
  obtain ⟨aI, hI⟩ := zs_int (hts _ zs_aI)
  obtain ⟨aS, hS⟩ := zs_over (hts _ zs_aS)
  refine ⟨((dC, dI), (aI, aI, aS, aI)), hC, ?_⟩
  intro k q hq
  match k, hq with
  | 0, hq => cases hq; exact hI
  | 1, hq => cases hq; exact hI
  | 2, hq => cases hq; exact hS
  | 3, hq => cases hq; exact hI
  | k + 4, hq => simp [zty] at hq
theorem zs_l1 : Cond.laysStatic Bundle.tN "UNASSIGNED_STACK" Bundle.steD ∈ lw_tbl := by decide +kernel
theorem zs_l2 : Cond.laysStatic Bundle.tN "SUPPRESSED_SENTINEL" Bundle.listD ∈ lw_tbl := by decide +kernel
theorem zs_l3 : Cond.initialized Bundle.tN ∈ lw_tbl := by decide +kernel
theorem zs_tx : ∀ t ∈ zTx, Cond.stringRef RX4 t.1 t.2 ∈ lw_tbl := by decide +kernel
theorem zs_nw : ∀ w ∈ zNw, w ∈ lw_tbl := by decide +kernel
abbrev zs_ng : Cond := Jvm.Cond.and given_1 narrow_1
theorem zs_r1 : Cond.isRef (.static Bundle.tN "UNASSIGNED_STACK" Bundle.steD) ∈ flatC zs_ng := by decide +kernel
theorem zs_r2 : Cond.isRef (.static Bundle.tN "SUPPRESSED_SENTINEL" Bundle.listD) ∈ flatC zs_ng := by decide +kernel
theorem zs_ex : ∀ t ∈ zTx, Cond.exactly (.string RX4 t.1) "java/lang/String" ∈ flatC zs_ng := by decide +kernel
theorem zs_T {s : State} {args : Array Value} (hts : ∀ w ∈ lw_tbl, w.before args s = true) (hgv : zs_ng.before args s = true) : zT (fun q : Nat => s.heap.size ≤ q) s s.heap := by
  have hs := flat_of_before _ hgv
  have hA : ∀ a : Nat, a < s.heap.size → ¬ (fun q : Nat => s.heap.size ≤ q) a := fun _ h => Nat.not_le.mpr h
  refine ⟨vx_Zqof (hts _ zs_l1) (hts _ zs_l3) (hs _ zs_r1) hA, vx_Zqof (hts _ zs_l2) (hts _ zs_l3) (hs _ zs_r2) hA, fun t ht => ?_, trivial, trivial, trivial, va_AO.of (hts _ zs_aS), fun w hw => va_Nw.of (zNw_tab hw) (hts _ (zs_nw w hw))⟩
  obtain ⟨a, -, -, -, ha, -⟩ := Cond.exactly_spec (hs _ (zs_ex t ht))
  exact ⟨a, vk_R.of (hts _ (zs_tx t ht)) ha⟩
