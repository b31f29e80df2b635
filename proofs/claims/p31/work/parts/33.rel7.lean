/-! RELATION: the other deeds -/
theorem r_put3 {Z : Nat → Nat → Int32} {W : Nat → Int32} {j : Nat} {kd val lf : Int32} (hj : j < 16) : fX3_put Z W (nI j) kd val lf = va_up (va_up (va_up Z 0 (upd (Z 0) j kd)) 1 (upd (Z 1) j val)) 2 (upd (Z 2) j lf) := by
  unfold fX3_put
  rw [if_neg (r_n0 hj), if_pos (r_n16 hj), r_cl hj]
theorem rZn.put {Z : Nat → Nat → Int32} {W Gz Gn : Nat → Int32} (h : rZn Z W Gz Gn) {j q : Nat} {kd val v : Int32} (hj : j < 16) (hT : rT kd val v) (h1 : 1 ≤ q) (h2 : q ≤ 1000) (hv : v < 0 → vp_in ((-1) - v) 16) : rZn (va_up (va_up (va_up Z 0 (upd (Z 0) j kd)) 1 (upd (Z 1) j val)) 2 (upd (Z 2) j (nI q))) W (upd (upd Gz j v) (16 + j) (nI q)) Gn := by
  refine ⟨fun j' hj' => ?_, h.2⟩
  have e1 : (upd (upd Gz j v) (16 + j) (nI q)) j' = (upd Gz j v) j' := r_un _ _ (by omega)
  rw [e1]
  show rT (upd (Z 0) j kd j') (upd (Z 1) j val j') (upd Gz j v j') ∧ (¬ upd Gz j v j' = 0 → upd (Z 2) j (nI q) j' = _ ∧ _) ∧ (upd Gz j v j' < 0 → _)
  by_cases e : j' = j
  · subst e
    rw [r_us, r_us, r_us, r_us, r_us]
    exact ⟨hT, fun _ => ⟨rfl, q, h1, h2, rfl⟩, hv⟩
  · rw [r_un _ _ e, r_un _ _ e, r_un _ _ e, r_un _ _ e, r_un _ _ (show 16 + j' ≠ 16 + j by omega), r_un _ _ (show 16 + j' ≠ j by omega)]
    exact h.1 j' hj'
theorem rZn.rem {Z : Nat → Nat → Int32} {W Gz Gn : Nat → Int32} (h : rZn Z W Gz Gn) {j : Nat} (hj : j < 16) : rZn (va_up (va_up (va_up Z 0 (upd (Z 0) j 2)) 1 (upd (Z 1) j (-3))) 2 (upd (Z 2) j 0)) W (upd Gz j 0) Gn := by
  refine ⟨fun j' hj' => ?_, h.2⟩
  show rT (upd (Z 0) j 2 j') (upd (Z 1) j (-3) j') (upd Gz j 0 j') ∧ (¬ upd Gz j 0 j' = 0 → upd (Z 2) j 0 j' = _ ∧ _) ∧ (upd Gz j 0 j' < 0 → _)
  by_cases e : j' = j
  · subst e
    rw [r_us, r_us, r_us]
    exact ⟨Or.inr (Or.inr ⟨rfl, rfl, rfl⟩), fun q => absurd rfl q, fun q => absurd q (by decide)⟩
  · rw [r_un _ _ e, r_un _ _ e, r_un _ _ e, r_un _ _ e, r_un _ _ (show 16 + j' ≠ j by omega)]
    exact h.1 j' hj'
section ZD
variable {T n : Nat} {X W F O Gz Gn Ge Gv Gl Gx Gh : Nat → Int32} {Z D : Nat → Nat → Int32} {Cs : Nat → Nat → Nat → Int32}
theorem rA.gn {W' Gz' Gm : Nat → Int32} {Z' : Nat → Nat → Int32} (h : rA T n X Z W D Cs O Gz Gn Ge Gv Gl Gx Gh) (hk : ∀ k, k ≠ 1 → k ≠ 2 → Gm k = Gn k) (hZ : rZn Z' W' Gz' Gm) : rA T n X Z' W' D Cs O Gz' Gm Ge Gv Gl Gx Gh := by
  obtain ⟨⟨s1, s2, b, s3, s4, s5⟩, -, ⟨x2, x3, x5, x8, x9, x10, x11, x12⟩, ⟨o1, o2, o3, o4⟩, ⟨t, t1, t2⟩, hsl⟩ := h
  refine ⟨⟨s1, by rw [hk 3 (by decide) (by decide)]; exact s2, b, s3, by rw [hk 4 (by decide) (by decide)]; exact s4, fun i hi => by rw [hk (5 + i) (by omega) (by omega)]; exact s5 i hi⟩, hZ, ⟨x2, ?_, ?_, ?_, ?_, ?_, ?_, ?_⟩, ⟨?_, ?_, ?_, ?_⟩, ⟨t, t1, ?_⟩, hsl⟩
  · rw [hk 0 (by decide) (by decide)]; exact x3
  · rw [hk 15 (by decide) (by decide)]; exact x5
  · rw [hk 10 (by decide) (by decide)]; exact x8
  · rw [hk 11 (by decide) (by decide)]; exact x9
  · rw [hk 12 (by decide) (by decide)]; exact x10
  · rw [hk 13 (by decide) (by decide)]; exact x11
  · rw [hk 14 (by decide) (by decide)]; exact x12
  · rw [hk 17 (by decide) (by decide)]; exact o1
  · rw [hk 18 (by decide) (by decide)]; exact o2
  · rw [hk 16 (by decide) (by decide)]; exact o3
  · rw [hk 16 (by decide) (by decide)]; exact o4
  · rw [hk 0 (by decide) (by decide)]; exact t2
theorem q_setAddress {j v q : Nat} (h : rA T n X Z W D Cs O Gz Gn Ge Gv Gl Gx Gh) (hj : j < 16) (hv1 : 1 ≤ v) (hv2 : v ≤ 9999) (h1 : 1 ≤ q) (h2 : q ≤ 1000) : rA T n X (fX4_setAddress_o X Z W (nI j) (nI v) (nI q)) W D Cs O (upd (upd Gz j (nI v)) (16 + j) (nI q)) Gn Ge Gv Gl Gx Gh := by
  refine h.gn (fun _ _ _ => rfl) ?_
  unfold fX4_setAddress_o
  rw [r_put3 hj]
  have p : 0 < nI v := nI_lt (a := 0) (by omega) (by omega)
  exact h.2.1.put hj (Or.inl ⟨p, rfl, rfl⟩) h1 h2 (fun q => absurd q (nI_pos (by omega)))
theorem r_neg {t : Nat} (ht : t < 16) : (-1) - nI t < 0 ∧ (-1) - ((-1) - nI t) = nI t := by
  have h : ∀ t, t < 16 → (-1) - nI t < 0 ∧ (-1) - ((-1) - nI t) = nI t := by decide +kernel
  exact h t ht
theorem q_setAlias {j t q : Nat} (h : rA T n X Z W D Cs O Gz Gn Ge Gv Gl Gx Gh) (hj : j < 16) (ht : t < 16) (h1 : 1 ≤ q) (h2 : q ≤ 1000) : rA T n X (fX4_setAlias_o X Z W (nI j) (nI t) (nI q)) W D Cs O (upd (upd Gz j ((-1) - nI t)) (16 + j) (nI q)) Gn Ge Gv Gl Gx Gh := by
  refine h.gn (fun _ _ _ => rfl) ?_
  unfold fX4_setAlias_o
  rw [r_put3 hj]
  exact h.2.1.put hj (Or.inr (Or.inl ⟨(r_neg ht).1, rfl, (r_neg ht).2.symm⟩)) h1 h2 (fun _ => by rw [(r_neg ht).2]; exact r_vin ht)
theorem q_remove {j : Nat} (h : rA T n X Z W D Cs O Gz Gn Ge Gv Gl Gx Gh) (hj : j < 16) : (Gz j = 0 → (fX4_remove_o X Z W (nI j)).1 = 0) ∧ (¬ Gz j = 0 → (fX4_remove_o X Z W (nI j)).1 = 1) ∧ rA T n X (fX4_remove_o X Z W (nI j)).2 W D Cs O (upd Gz j 0) Gn Ge Gv Gl Gx Gh := by
  have hk := (h.2.1.1 j hj).1.k2
  have e2 : (fX4_remove_o X Z W (nI j)).2 = fX3_put Z W (nI j) 2 (-3) 0 := by
    unfold fX4_remove_o
    split <;> rfl
  refine ⟨fun q => ?_, fun q => ?_, ?_⟩
  · unfold fX4_remove_o
    rw [if_pos (by rw [r_kind hj]; exact hk.mpr q)]
  · unfold fX4_remove_o
    rw [if_neg (by rw [r_kind hj]; exact fun u => q (hk.mp u))]
  · rw [e2, r_put3 hj]
    exact h.gn (fun _ _ _ => rfl) (h.2.1.rem hj)
theorem q_setBound {q : Nat} (h : rA T n X Z W D Cs O Gz Gn Ge Gv Gl Gx Gh) (h1 : 1 ≤ q) (h2 : q ≤ 300) : (fX4_setBound_o X Z W (nI q)).1 = Gn 1 ∧ rA T n X Z (fX4_setBound_o X Z W (nI q)).2 D Cs O Gz (upd Gn 1 (nI q)) Ge Gv Gl Gx Gh := by
  obtain ⟨z1, z2, z3, z4, z5⟩ := h.2.1
  exact ⟨z2, h.gn (fun k hk _ => r_un _ _ hk) ⟨z1, by rw [r_us]; rfl, ⟨q, h1, h2, r_us _ _ _⟩, by rw [r_un _ _ (by decide)]; exact z4, by rw [r_un _ _ (by decide)]; exact z5⟩⟩
theorem q_setAuthority {x : Int32} (h : rA T n X Z W D Cs O Gz Gn Ge Gv Gl Gx Gh) (hx : x = 0 ∨ x = 1) : (fX4_setAuthority X Z W x).1 = Gn 2 ∧ rA T n X Z (fX4_setAuthority X Z W x).2 D Cs O Gz (upd Gn 2 x) Ge Gv Gl Gx Gh := by
  obtain ⟨z1, z2, z3, z4, z5⟩ := h.2.1
  exact ⟨z4, h.gn (fun k _ hk => r_un _ _ hk) ⟨z1, by rw [r_un _ _ (by decide)]; exact z2, by rw [r_un _ _ (by decide)]; exact z3, by rw [r_us]; rfl, by rw [r_us]; exact hx⟩⟩
theorem q_pass {k : Nat} (h : rA T n X Z W D Cs O Gz Gn Ge Gv Gl Gx Gh) (hk : k ≤ 1000) : (fX4_pass_o X (nI k)).1 = Gn 0 + nI k ∧ rA (T + 1000) n (fX4_pass_o X (nI k)).2 Z W D Cs O Gz (upd Gn 0 (Gn 0 + nI k)) Ge Gv Gl Gx Gh := by
  obtain ⟨⟨s1, s2, b, s3, s4, s5⟩, hZ, ⟨x2, x3, x5, x8, x9, x10, x11, x12⟩, ⟨o1, o2, o3, o4⟩, ⟨t, t1, t2⟩, hsl⟩ := h
  refine ⟨by rw [← x3]; rfl, ⟨s1, ?_, b, s3, ?_, fun i hi => ?_⟩, hZ.mono (r_un _ _ (by decide)) (r_un _ _ (by decide)), ⟨x2, ?_, ?_, ?_, ?_, ?_, ?_, ?_⟩, ⟨?_, ?_, ?_, ?_⟩, ⟨t + k, by omega, ?_⟩, hsl⟩
  · rw [r_un _ _ (by decide)]; exact s2
  · rw [r_un _ _ (by decide)]; exact s4
  · rw [r_un _ _ (show 5 + i ≠ 0 by omega)]; exact s5 i hi
  · rw [r_us, ← x3]; rfl
  · rw [r_un _ _ (by decide)]; exact x5
  · rw [r_un _ _ (by decide)]; exact x8
  · rw [r_un _ _ (by decide)]; exact x9
  · rw [r_un _ _ (by decide)]; exact x10
  · rw [r_un _ _ (by decide)]; exact x11
  · rw [r_un _ _ (by decide)]; exact x12
  · rw [r_un _ _ (by decide)]; exact o1
  · rw [r_un _ _ (by decide)]; exact o2
  · rw [r_un _ _ (by decide)]; exact o3
  · rw [r_un _ _ (by decide)]; exact o4
  · rw [r_us, t2, nI_add]
/-- another set of announced sites, another number of them: only the places 3, 4 and 5 to 8 change -/
theorem rA.si {n' : Nat} {X' Gm : Nat → Int32} {D' : Nat → Nat → Int32} {Cs' : Nat → Nat → Nat → Int32} (h : rA T n X Z W D Cs O Gz Gn Ge Gv Gl Gx Gh) (hk : ∀ k, (k < 3 ∨ 8 < k) → Gm k = Gn k) (hX : ∀ k, k ≠ 2 → X' k = X k) (hX2 : X' 2 = nI n') (hs : rSi n' D' Gm) (hl : rSl n' Cs' Ge Gv Gl Gx Gh) : rA T n' X' Z W D' Cs' O Gz Gm Ge Gv Gl Gx Gh := by
  obtain ⟨-, hZ, ⟨x2, x3, x5, x8, x9, x10, x11, x12⟩, ⟨o1, o2, o3, o4⟩, ⟨t, t1, t2⟩, -⟩ := h
  refine ⟨hs, hZ.mono (hk 1 (by decide)) (hk 2 (by decide)), ⟨hX2, ?_, ?_, ?_, ?_, ?_, ?_, ?_⟩, ⟨?_, ?_, ?_, ?_⟩, ⟨t, t1, ?_⟩, hl⟩
  · rw [hk 0 (by decide), hX 3 (by decide)]; exact x3
  · rw [hk 15 (by decide), hX 5 (by decide)]; exact x5
  · rw [hk 10 (by decide), hX 8 (by decide)]; exact x8
  · rw [hk 11 (by decide), hX 9 (by decide)]; exact x9
  · rw [hk 12 (by decide), hX 10 (by decide)]; exact x10
  · rw [hk 13 (by decide), hX 11 (by decide)]; exact x11
  · rw [hk 14 (by decide), hX 12 (by decide)]; exact x12
  · rw [hk 17 (by decide)]; exact o1
  · rw [hk 18 (by decide)]; exact o2
  · rw [hk 16 (by decide)]; exact o3
  · rw [hk 16 (by decide)]; exact o4
  · rw [hk 0 (by decide)]; exact t2
/-- a bit set, a bit taken away -/
def rBs (b i : Nat) : Nat := if b / 2 ^ i % 2 = 0 then b + 2 ^ i else b
def rBc (b i : Nat) : Nat := if b / 2 ^ i % 2 = 0 then b else b - 2 ^ i
theorem r_bs : ∀ b, b < 16 → ∀ i, i < 4 → (nI b ||| (1 <<< (nI i &&& 31))) = nI (rBs b i) ∧ (nI b &&& ((1 <<< (nI i &&& 31)) ^^^ (-1))) = nI (rBc b i) ∧ (∀ k, k < 4 → rBs b i / 2 ^ k % 2 = (if k = i then 1 else b / 2 ^ k % 2) ∧ rBc b i / 2 ^ k % 2 = (if k = i then 0 else b / 2 ^ k % 2)) := by decide +kernel
theorem r_bn : ∀ n, n < 5 → ∀ b, b < 2 ^ n → ∀ i, i < n → rBs b i < 2 ^ n ∧ rBc b i < 2 ^ n := by decide +kernel
theorem r_b1 : ∀ n, n < 4 → ∀ b, b < 2 ^ n → rBs b n < 2 ^ (n + 1) := by decide +kernel
theorem q_announce {i : Nat} {x m4 : Int32} (h : rA T n X Z W D Cs O Gz Gn Ge Gv Gl Gx Gh) (hi : i < n) (hx : (x = 1 ∧ m4 = (Gn 4 ||| (1 <<< (nI i &&& 31)))) ∨ (x = 0 ∧ m4 = (Gn 4 &&& ((1 <<< (nI i &&& 31)) ^^^ (-1))))) :
    (((Gn 4 >>> (nI i &&& 31)) &&& 1) = 1 → (fX4_announce_h D i x).1 = 1) ∧ (¬ ((Gn 4 >>> (nI i &&& 31)) &&& 1) = 1 → (fX4_announce_h D i x).1 = 0) ∧ rA T n X Z W (fX4_announce_h D i x).2 Cs O Gz (upd Gn 4 m4) Ge Gv Gl Gx Gh := by
  obtain ⟨s1, s2, b, s3, s4, s5⟩ := h.1
  have hb := r_2n s3 s1
  have hi4 : i < 4 := by omega
  obtain ⟨b1, b2, b3⟩ := r_bit b hb i hi4
  obtain ⟨c1, c2, c3⟩ := r_bs b hb i hi4
  obtain ⟨c4, c5⟩ := r_bn n (by omega) b s3 i hi
  have e3 : (fX4_announce_h D i x).1 = nI (b / 2 ^ i % 2) := (s5 i hi).2.2
  refine ⟨fun q => ?_, fun q => ?_, ?_⟩
  · rw [s4] at q
    rw [e3, ← b3]; exact q
  · rw [s4] at q
    rw [e3]
    rcases b2 with u | u
    · rw [u]; rfl
    · exact absurd (b3.trans (by rw [u]; rfl)) q
  · refine h.si (fun k hk => r_un _ _ (by omega)) (fun _ _ => rfl) h.2.2.1.1 ?_ h.2.2.2.2.2
    have e : (fX4_announce_h D i x).2 = va_up D i (va_up (D i) 3 x) := rfl
    rw [e]
    rcases hx with ⟨rfl, rfl⟩ | ⟨rfl, rfl⟩
    · refine ⟨s1, by rw [r_un _ _ (by decide)]; exact s2, rBs b i, c4, by rw [r_us, s4]; exact c1, fun k hk => ?_⟩
      rw [r_un _ _ (show 5 + k ≠ 4 by omega), (c3 k (by omega)).1]
      by_cases q : k = i
      · rw [q, va_up_self, if_pos rfl]
        exact ⟨(s5 i hi).1, (s5 i hi).2.1, rfl⟩
      · rw [va_up_ne _ _ q, if_neg q]; exact s5 k hk
    · refine ⟨s1, by rw [r_un _ _ (by decide)]; exact s2, rBc b i, c5, by rw [r_us, s4]; exact c2, fun k hk => ?_⟩
      rw [r_un _ _ (show 5 + k ≠ 4 by omega), (c3 k (by omega)).2]
      by_cases q : k = i
      · rw [q, va_up_self, if_pos rfl]
        exact ⟨(s5 i hi).1, (s5 i hi).2.1, rfl⟩
      · rw [va_up_ne _ _ q, if_neg q]; exact s5 k hk
theorem r_zC0 : (∀ j, j < 16 → zC0 0 j = 3) ∧ zC0 5 0 = 0 := ⟨by decide +kernel, rfl⟩
theorem q_addSite {q : Nat} (h : rA T n X Z W D Cs O Gz Gn Ge Gv Gl Gx Gh) (hn : n < 4) (hq : q < 100) : rA T (n + 1) (va_up X 2 ((X 2) + 1)) Z W (va_up D n (va_up (va_up (va_up (fun _ => 0) 0 (X 2)) 1 (nI q)) 3 1)) (va_up Cs n zC0) O Gz (upd (upd (upd Gn (5 + n) (nI q)) 4 (Gn 4 ||| (1 <<< (nI n &&& 31)))) 3 (nI (n + 1))) Ge Gv Gl Gx Gh := by
  obtain ⟨s1, s2, b, s3, s4, s5⟩ := h.1
  have hb := r_2n s3 s1
  obtain ⟨c1, c2, c3⟩ := r_bs b hb n hn
  refine h.si (fun k hk => by rw [r_un _ _ (by omega), r_un _ _ (by omega), r_un _ _ (by omega)]) (fun k hk => va_up_ne _ _ hk) (by rw [va_up_self, h.2.2.1.1, nI_1]) ⟨by omega, r_us _ _ _, rBs b n, r_b1 n hn b s3, by rw [r_un _ _ (by decide), r_us, s4]; exact c1, fun k hk => ?_⟩ ⟨fun k hk => ?_, fun k h1 h2 => h.2.2.2.2.2.2.1 k (by omega) h2, h.2.2.2.2.2.2.2⟩
  · rw [r_un _ _ (show 5 + k ≠ 3 by omega), r_un _ _ (show 5 + k ≠ 4 by omega), (c3 k (by omega)).1]
    by_cases e : k = n
    · subst e
      rw [va_up_self, r_us, if_pos rfl]
      exact ⟨h.2.2.1.1, ⟨q, hq, rfl, rfl⟩, rfl⟩
    · rw [va_up_ne _ _ e, r_un _ _ (show 5 + k ≠ 5 + n by omega), if_neg e]
      exact s5 k (by omega)
  · by_cases e : k = n
    · subst e
      rw [va_up_self]
      have z : ∀ k', inS k k' → Ge k' = 0 := fun k' hk' => h.2.2.2.2.2.2.1 k' hk'.1 (by have := hk'.2; omega)
      refine ⟨fun k' hk' => Or.inl (z k' hk'), fun k1 k2 h1 _ _ q0 => absurd (z k1 h1) q0, fun j hj h3 => absurd (r_zC0.1 j hj) h3, ?_, ?_⟩
      · rw [r_zC0.2, cno_none (fun j hj => r_zC0.1 j hj)]; exact nI_0.symm
      · rw [cno_none (fun j hj => r_zC0.1 j hj), cno_none (f := sx Ge k) (fun d hd => z (6 * k + d) ⟨by omega, by omega⟩)]
    · rw [va_up_ne _ _ e]
      exact h.2.2.2.2.2.1 k (by omega)
/-- the slots change, the rest stays -/
theorem rA.sl {Cs' : Nat → Nat → Nat → Int32} {Ge' : Nat → Int32} (h : rA T n X Z W D Cs O Gz Gn Ge Gv Gl Gx Gh) (hl : rSl n Cs' Ge' Gv Gl Gx Gh) : rA T n X Z W D Cs' O Gz Gn Ge' Gv Gl Gx Gh := ⟨h.1, h.2.1, h.2.2.1, h.2.2.2.1, h.2.2.2.2.1, hl⟩
theorem q_flush {i j : Nat} (h : rA T n X Z W D Cs O Gz Gn Ge Gv Gl Gx Gh) (hi : i < n) (hj : j < 16) :
    (fL_slot Ge i (nI j) < 0 → (fX4_flush_o (Cs i) (nI j)).1 = 0 ∧ rA T n X Z W D (va_up Cs i (fX4_flush_o (Cs i) (nI j)).2) O Gz Gn (upd Ge 0 (Ge 0)) Gv Gl Gx Gh) ∧
    (¬ fL_slot Ge i (nI j) < 0 → (fX4_flush_o (Cs i) (nI j)).1 = 1 ∧ rA T n X Z W D (va_up Cs i (fX4_flush_o (Cs i) (nI j)).2) O Gz Gn (upd Ge (fL_slot Ge i (nI j)).toNatClampNeg 0) Gv Gl Gx Gh) := by
  have hi4 : i < 4 := by have := h.1.1; omega
  have hS := h.2.2.2.2.2.1 i hi
  have e : fX4_flush_o (Cs i) (nI j) = fX0_drop (Cs i) (nI j) := rfl
  rw [e, r_dropD hj]
  rcases hS.slot hj with ⟨s1, c3⟩ | ⟨k, hk, s1, s2, s3⟩
  · refine ⟨fun _ => ?_, fun c => absurd (by rw [s1]; decide) c⟩
    rw [if_pos c3]
    refine ⟨rfl, ?_⟩
    have u : upd Ge 0 (Ge 0) = Ge := by
      funext t
      by_cases q : t = 0
      · rw [q, r_us]
      · rw [r_un _ _ q]
    have v : va_up Cs i (Cs i) = Cs := by
      funext t
      by_cases q : t = i
      · rw [q, va_up_self]
      · rw [va_up_ne _ _ q]
    rw [u]
    show rA T n X Z W D (va_up Cs i (Cs i)) O Gz Gn Ge Gv Gl Gx Gh
    rw [v]
    exact h
  · refine ⟨fun c => absurd c (by rw [s1]; exact nI_pos (by have := hk.2; omega)), fun _ => ?_⟩
    rw [if_neg s3.1.n3, s1, nI_clamp (by have := hk.2; omega)]
    refine ⟨rfl, h.sl ⟨fun i' hi' => ?_, fun t h1 h2 => ?_, h.2.2.2.2.2.2.2⟩⟩
    · by_cases q : i' = i
      · rw [q, va_up_self]
        exact hS.drop hj hk s2
      · rw [va_up_ne _ _ q]
        refine (h.2.2.2.2.2.1 i' hi').congr (fun _ _ _ _ => rfl) rfl (fun t ht => r_un _ _ fun u => ?_) (fun _ _ => rfl) (fun _ _ => rfl) (fun _ _ => rfl) (fun _ _ => rfl)
        have := ht.1; have := ht.2; have := hk.1; have := hk.2
        omega
    · rw [r_un _ _ (by have := hk.2; omega)]
      exact h.2.2.2.2.2.2.1 t h1 h2
/-- the first state -/
theorem rA_0 : rA 0 0 zX0 zZ0 zW0 (fun _ _ => 0) (fun _ _ _ => 0) (fun _ => 0) (fun _ => 0) (upd (upd (upd (fun _ => 0) 1 30) 2 1) 15 (-3)) (fun _ => 0) (fun _ => 0) (fun _ => 0) (fun _ => 0) (fun _ => 0) := by
  have z0 : ∀ j, j < 16 → zZ0 0 j = 2 := by decide +kernel
  have z1 : ∀ j, j < 16 → zZ0 1 j = (-3) := by decide +kernel
  refine ⟨⟨by decide, rfl, 0, by decide, rfl, fun i hi => absurd hi (by omega)⟩, ⟨fun j hj => ⟨Or.inr (Or.inr ⟨rfl, z0 j hj, z1 j hj⟩), fun q => absurd rfl q, fun q => absurd q (show ¬ (0 : Int32) < 0 by decide)⟩, rfl, ⟨30, by decide, by decide, rfl⟩, rfl, Or.inr rfl⟩, ⟨rfl, rfl, rfl, rfl, rfl, rfl, rfl, rfl⟩, ⟨rfl, rfl, rfl, Or.inl rfl⟩, ⟨0, by decide, rfl⟩, ⟨fun i hi => absurd hi (by omega), fun _ _ _ => rfl, fun k q => absurd q (show ¬ (0 : Int32) < 0 by decide)⟩⟩
theorem rA.up {T' : Nat} (h : rA T n X Z W D Cs O Gz Gn Ge Gv Gl Gx Gh) (hT : T ≤ T') : rA T' n X Z W D Cs O Gz Gn Ge Gv Gl Gx Gh := ⟨h.1, h.2.1, h.2.2.1, h.2.2.2.1, by obtain ⟨t, t1, t2⟩ := h.2.2.2.2.1; exact ⟨t, by omega, t2⟩, h.2.2.2.2.2⟩
end ZD
