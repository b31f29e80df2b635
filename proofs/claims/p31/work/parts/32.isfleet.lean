/-! THE LAW'S LOOK AT THE FLEET -/
theorem zI_p {α : Type} {a0 a1 a2 c x S : List α} {r : List (List α)} (h : S.Perm (c ++ x)) : (a0 :: a1 :: a2 :: S :: r).flatten.Perm (a0 :: a1 :: a2 :: c :: (r ++ [x])).flatten := by
  simp only [List.flatten_cons, List.flatten_append, List.flatten_nil, List.append_nil]
  refine List.Perm.append_left _ (List.Perm.append_left _ (List.Perm.append_left _ ?_))
  refine (h.append_right _).trans ?_
  rw [List.append_assoc]
  exact List.Perm.append_left _ List.perm_append_comm
theorem zI_q {α : Type} {a0 a1 a2 c x S : List α} {r r' : List (List α)} (hr : r' = r ++ [x]) (h : S.Perm (c ++ x)) : (a0 :: a1 :: a2 :: c :: r').flatten.Perm (a0 :: a1 :: a2 :: S :: r).flatten := by
  subst hr
  exact (zI_p h).symm
def zSX (K : zK) (n : Nat) (sc : Nat → Nat → Nat) (Cs : Nat → Nat → Nat → Int32) (i : Nat) : va_W := (((List.range n).erase i).map (fun k => zCa K (sc k) (Cs k))).flatten
theorem zSC_split {K : zK} {n i : Nat} {sc : Nat → Nat → Nat} {Cs : Nat → Nat → Nat → Int32} (hi : i < n) : (zSC K n sc Cs).Perm (zCa K (sc i) (Cs i) ++ zSX K n sc Cs i) := by
  unfold zSC zSX
  exact ((List.perm_cons_erase (List.mem_range.mpr hi)).map _).flatten
theorem zSX_up {K : zK} {n i : Nat} {sc : Nat → Nat → Nat} {Cs : Nat → Nat → Nat → Int32} {C : Nat → Nat → Int32} : zSX K n sc (va_up Cs i C) i = zSX K n sc Cs i := by
  unfold zSX
  refine congrArg List.flatten (List.map_congr_left fun k hk => ?_)
  have hne : k ≠ i := fun e => by
    subst e
    exact (List.nodup_range.not_mem_erase) hk
  rw [va_up_ne _ _ hne]
theorem zSC_join {K : zK} {n i : Nat} {sc : Nat → Nat → Nat} {Cs : Nat → Nat → Nat → Int32} {C : Nat → Nat → Int32} (hi : i < n) : (zSC K n sc (va_up Cs i C)).Perm (zCa K (sc i) C ++ zSX K n sc Cs i) := by
  have h := zSC_split (K := K) (sc := sc) (Cs := va_up Cs i C) hi
  rw [va_up_self, zSX_up] at h
  exact h
section ZFF
variable {T n i a : Nat} {X W F O Gz Gn Ge Gv Gl Gx Gh : Nat → Int32} {Z D : Nat → Nat → Int32} {Cs : Nat → Nat → Nat → Int32}
theorem f_time (h : rA T n X Z W D Cs O Gz Gn Ge Gv Gl Gx Gh) : fX4_time X = Gn 0 := h.2.2.1.2.1
theorem f_lastSite (h : rA T n X Z W D Cs O Gz Gn Ge Gv Gl Gx Gh) : fX4_lastSite X = Gn 15 := h.2.2.1.2.2.1
theorem f_queries (h : rA T n X Z W D Cs O Gz Gn Ge Gv Gl Gx Gh) : fX4_queries X = Gn 10 := h.2.2.1.2.2.2.1
theorem f_fetches (h : rA T n X Z W D Cs O Gz Gn Ge Gv Gl Gx Gh) : fX4_fetches X = Gn 11 := h.2.2.1.2.2.2.2.1
theorem f_prefetches (h : rA T n X Z W D Cs O Gz Gn Ge Gv Gl Gx Gh) : fX4_prefetches X = Gn 12 := h.2.2.1.2.2.2.2.2.1
theorem f_staleAnswers (h : rA T n X Z W D Cs O Gz Gn Ge Gv Gl Gx Gh) : fX4_staleAnswers X = Gn 13 := h.2.2.1.2.2.2.2.2.2.1
theorem f_failures (h : rA T n X Z W D Cs O Gz Gn Ge Gv Gl Gx Gh) : fX4_failures X = Gn 14 := h.2.2.1.2.2.2.2.2.2.2
theorem f_lastLookUps (h : rA T n X Z W D Cs O Gz Gn Ge Gv Gl Gx Gh) : fX4_lastLookUps X F O = Gn 17 := h.2.2.2.1.1
theorem f_lastFetches (h : rA T n X Z W D Cs O Gz Gn Ge Gv Gl Gx Gh) : fX4_lastFetches X F O = Gn 18 := h.2.2.2.1.2.1
theorem f_stale1 (h : rA T n X Z W D Cs O Gz Gn Ge Gv Gl Gx Gh) (c : Gn 16 = 1) : fX4_lastWasStale X F O = 1 := h.2.2.2.1.2.2.1.trans c
theorem f_stale0 (h : rA T n X Z W D Cs O Gz Gn Ge Gv Gl Gx Gh) (c : ¬ Gn 16 = 1) : fX4_lastWasStale X F O = 0 := h.2.2.2.1.2.2.1.trans (h.2.2.2.1.2.2.2.resolve_right c)
theorem f_O5 (h : rA T n X Z W D Cs O Gz Gn Ge Gv Gl Gx Gh) : (O 5) = 0 ∨ (O 5) = 1 := by rw [h.2.2.2.1.2.2.1]; exact h.2.2.2.1.2.2.2
theorem f_n0 (h : rA T n X Z W D Cs O Gz Gn Ge Gv Gl Gx Gh) (ha : a + 0 = n) : Gn 3 ≤ nI a := by rw [h.1.2.1]; exact nI_le (by omega) (by have := h.1.1; omega)
theorem f_nS {m : Nat} (h : rA T n X Z W D Cs O Gz Gn Ge Gv Gl Gx Gh) (ha : a + (m + 1) = n) : ¬ Gn 3 ≤ nI a := by rw [h.1.2.1]; exact nI_ge (by omega) (by have := h.1.1; omega)
theorem f_no (h : rA T n X Z W D Cs O Gz Gn Ge Gv Gl Gx Gh) (hi : i < n) (ha : a < 16) (c : fL_slot Ge i (nI a) < 0) : Cs i 0 a = 3 := by
  have h4 := h.1.1
  rcases (h.2.2.2.2.2.1 i hi).slot ha with ⟨_, q⟩ | ⟨k, hk, q, _⟩
  · exact q
  · rw [q] at c; exact absurd c (nI_pos (by have := hk.2; omega))
theorem f_en (h : rA T n X Z W D Cs O Gz Gn Ge Gv Gl Gx Gh) (hi : i < n) (ha : a < 16) (c : ¬ fL_slot Ge i (nI a) < 0) : rEn (Cs i) Gv Gl Gx Gh a (fL_slot Ge i (nI a)).toNatClampNeg := by
  have h4 := h.1.1
  rcases (h.2.2.2.2.2.1 i hi).slot ha with ⟨q, _⟩ | ⟨k, hk, q, _, q2⟩
  · rw [q] at c; exact absurd (by decide) c
  · rw [q, nI_clamp (by have := hk.2; omega)]; exact q2
theorem f_k3 (h : rA T n X Z W D Cs O Gz Gn Ge Gv Gl Gx Gh) (hi : i < n) (ha : a < 16) (c : fL_slot Ge i (nI a) < 0) : fX4_cachedKind_o (Cs i) (nI a) = 3 := (r_kO ha).trans (f_no h hi ha c)
theorem f_v3 (h : rA T n X Z W D Cs O Gz Gn Ge Gv Gl Gx Gh) (hi : i < n) (ha : a < 16) (c : fL_slot Ge i (nI a) < 0) : fX4_cachedValue_o (Cs i) (nI a) = (-3) := (r_vO ha).trans (if_pos (f_no h hi ha c))
theorem f_h0 (h : rA T n X Z W D Cs O Gz Gn Ge Gv Gl Gx Gh) (hi : i < n) (ha : a < 16) (c : fL_slot Ge i (nI a) < 0) : fX4_hitsOf_o (Cs i) (nI a) = 0 := by
  show fX0_hitsFor (Cs i) (nI a) = 0
  unfold fX0_hitsFor
  rw [r_has ha, if_pos (f_no h hi ha c), if_pos rfl]
theorem f_k0 (h : rA T n X Z W D Cs O Gz Gn Ge Gv Gl Gx Gh) (hi : i < n) (ha : a < 16) (c : ¬ fL_slot Ge i (nI a) < 0) (v : ¬ Gv (fL_slot Ge i (nI a)).toNatClampNeg ≤ 0) : fX4_cachedKind_o (Cs i) (nI a) = 0 ∧ fX4_cachedValue_o (Cs i) (nI a) = Gv (fL_slot Ge i (nI a)).toNatClampNeg := by
  have he := (f_en h hi ha c).1
  refine ⟨(r_kO ha).trans ?_, (r_vO ha).trans ((if_neg he.n3).trans ?_)⟩
  · rcases he with ⟨_, q, _⟩ | ⟨q, _⟩ | ⟨q, _⟩
    · exact q
    · exact absurd (Int32.le_of_lt q) v
    · rw [q] at v; exact absurd (by decide) v
  · rcases he with ⟨_, _, q⟩ | ⟨q, _⟩ | ⟨q, _⟩
    · exact q
    · exact absurd (Int32.le_of_lt q) v
    · rw [q] at v; exact absurd (by decide) v
theorem f_k1 (h : rA T n X Z W D Cs O Gz Gn Ge Gv Gl Gx Gh) (hi : i < n) (ha : a < 16) (c : ¬ fL_slot Ge i (nI a) < 0) (v : ¬ 0 ≤ Gv (fL_slot Ge i (nI a)).toNatClampNeg) : fX4_cachedKind_o (Cs i) (nI a) = 1 ∧ fX4_cachedValue_o (Cs i) (nI a) = (-1) - Gv (fL_slot Ge i (nI a)).toNatClampNeg := by
  have he := (f_en h hi ha c).1
  refine ⟨(r_kO ha).trans ?_, (r_vO ha).trans ((if_neg he.n3).trans ?_)⟩
  · rcases he with ⟨q, _⟩ | ⟨_, q, _⟩ | ⟨q, _⟩
    · exact absurd (Int32.le_of_lt q) v
    · exact q
    · rw [q] at v; exact absurd (by decide) v
  · rcases he with ⟨q, _⟩ | ⟨_, _, q⟩ | ⟨q, _⟩
    · exact absurd (Int32.le_of_lt q) v
    · exact q
    · rw [q] at v; exact absurd (by decide) v
theorem f_k2 (h : rA T n X Z W D Cs O Gz Gn Ge Gv Gl Gx Gh) (hi : i < n) (ha : a < 16) (c : ¬ fL_slot Ge i (nI a) < 0) (v : 0 ≤ Gv (fL_slot Ge i (nI a)).toNatClampNeg) (w : Gv (fL_slot Ge i (nI a)).toNatClampNeg ≤ 0) : fX4_cachedKind_o (Cs i) (nI a) = 2 ∧ fX4_cachedValue_o (Cs i) (nI a) = (-3) := by
  have he := (f_en h hi ha c).1
  refine ⟨(r_kO ha).trans ?_, (r_vO ha).trans ((if_neg he.n3).trans ?_)⟩
  · rcases he with ⟨q, _⟩ | ⟨q, _⟩ | ⟨_, q, _⟩
    · exact absurd w (Int32.not_le.mpr q)
    · exact absurd v (Int32.not_le.mpr q)
    · exact q
  · rcases he with ⟨q, _⟩ | ⟨q, _⟩ | ⟨_, _, q⟩
    · exact absurd w (Int32.not_le.mpr q)
    · exact absurd v (Int32.not_le.mpr q)
    · exact q
theorem f_hit (h : rA T n X Z W D Cs O Gz Gn Ge Gv Gl Gx Gh) (hi : i < n) (ha : a < 16) (c : ¬ fL_slot Ge i (nI a) < 0) : fX4_hitsOf_o (Cs i) (nI a) = Gh (fL_slot Ge i (nI a)).toNatClampNeg := by
  have he := f_en h hi ha c
  show fX0_hitsFor (Cs i) (nI a) = _
  unfold fX0_hitsFor
  rw [r_has ha, if_neg he.1.n3, if_neg (by decide), r_cl ha]
  exact he.2.2.2
theorem f_has (h : rA T n X Z W D Cs O Gz Gn Ge Gv Gl Gx Gh) (hi : i < n) (ha : a < 16) (c : ¬ fL_slot Ge i (nI a) < 0) : ¬ (fX0_has (Cs i) (nI a)) = 0 := by
  rw [r_has ha, if_neg (f_en h hi ha c).1.n3]
  decide
theorem f_left (h : rA T n X Z W D Cs O Gz Gn Ge Gv Gl Gx Gh) (hi : i < n) (ha : a < 16) (c : ¬ fL_slot Ge i (nI a) < 0) : fX4_left_o X (Cs i) (nI a) = Gx (fL_slot Ge i (nI a)).toNatClampNeg - Gn 0 := by
  have he := f_en h hi ha c
  show fX0_endOf (Cs i) (nI a) - X 3 = _
  unfold fX0_endOf
  rw [r_has ha, if_neg he.1.n3, if_neg (by decide), r_cl ha, he.2.2.1, h.2.2.1.2.1]
theorem f_m0 (h : rA T n X Z W D Cs O Gz Gn Ge Gv Gl Gx Gh) (hi : i < n) (ha : a < 16) (c : fL_slot Ge i (nI a) < 0) : nI (cno 3 (Cs i 0) a + 0) = nI (cno 3 (Cs i 0) (a + 1)) := by
  rw [cno, if_pos (f_no h hi ha c)]
theorem f_m1 (h : rA T n X Z W D Cs O Gz Gn Ge Gv Gl Gx Gh) (hi : i < n) (ha : a < 16) (c : ¬ fL_slot Ge i (nI a) < 0) : nI (cno 3 (Cs i 0) a + 1) = nI (cno 3 (Cs i 0) (a + 1)) := by
  rw [cno, if_neg (f_en h hi ha c).1.n3]
theorem f_ent (h : rA T n X Z W D Cs O Gz Gn Ge Gv Gl Gx Gh) (hi : i < n) : fX4_entries_h D i (Cs i) = nI (cno 3 (Cs i 0) 16) := (h.2.2.2.2.2.1 i hi).2.2.2.1
theorem f_lt {x : Int32} (h : ¬ 0 ≤ x) : x < 0 := Int32.not_le.mp h
theorem f_ge {x : Int32} (h : 0 ≤ x) : ¬ x < 0 := Int32.not_lt.mpr h
end ZFF

set_option maxHeartbeats 4000000 in
set_option maxRecDepth 100000 in
theorem kL_isFleet_A (l : Launch) (hl : l.stackTraces = false) (K : zK) (ax : Nat) (az : Nat → Nat) (sa : Nat) (ak : Nat → Nat) (tr : Nat) (tc : Nat) (X : Nat → Int32) (f : Nat → Option Nat) (n : Nat) (so : Nat → Nat) (sc : Nat → Nat → Nat) (D : Nat → Nat → Int32) (Cs : Nat → Nat → Nat → Int32) (Z : Nat → Nat → Int32) (W : Nat → Int32) (F : Nat → Int32) (O : Nat → Int32) (pz : Nat) (pn : Nat) (pe : Nat) (pv : Nat) (px : Nat) (ph : Nat) (Gz : Nat → Int32) (Gn : Nat → Int32) (Ge : Nat → Int32) (Gv : Nat → Int32) (Gl : Nat → Int32) (Gx : Nat → Int32) (Gh : Nat → Int32) (T : Nat) (hf1 : ∀ a, a < n → f a = some (so a)) (hR : rA T n X Z W D Cs O Gz Gn Ge Gv Gl Gx Gh) {i : Nat} (hi : i < n) (hi4 : i < 4) {p : Program} {e : Env} {s : State} {m : MethodId} {args : Array Value} {below : List Frame} {meth : Method} {c : Code} {A : Nat → Prop} (B : zF K p l s m args meth c A cL_isFleet 12 RL "isFleet" wsL_isFleet (some .boolean) []) {Q : State → Prop} (kk : zW K p l e { frames := 3, cells := 0, slots := 0, locals := 68 } s m args below meth c A Q 0 0 [zXo ax (az 0) sa (ak 0) tr tc X, zSa K sa f, zSO n so sc D, zCa K (sc i) (Cs i), zZo K az Z W, zCo K ak F O, [(pz, .inl (zI K, 32, .inl Gz))], [(pn, .inl (zI K, 20, .inl Gn))], [(pe, .inl (zI K, 24, .inl Ge))], [(pv, .inl (zI K, 24, .inl Gv))], [(px, .inl (zI K, 24, .inl Gx))], [(ph, .inl (zI K, 24, .inl Gh))], zSX K n sc Cs i] [(0, .ref ax), (1, .ref pz), (2, .ref pn), (3, .ref pe), (4, .ref pv), (5, .ref px), (6, .ref ph), (7, .int 1), (8, .int (nI i)), (9, .int (nI (cno 3 (Cs i 0) 16)))] [] 387) : ∀ (m9 a : Nat), a + m9 = 16 → zW K p l e { frames := 3, cells := 0, slots := 0, locals := 68 } s m args below meth c A Q 0 0 [zXo ax (az 0) sa (ak 0) tr tc X, zSa K sa f, zSO n so sc D, zCa K (sc i) (Cs i), zZo K az Z W, zCo K ak F O, [(pz, .inl (zI K, 32, .inl Gz))], [(pn, .inl (zI K, 20, .inl Gn))], [(pe, .inl (zI K, 24, .inl Ge))], [(pv, .inl (zI K, 24, .inl Gv))], [(px, .inl (zI K, 24, .inl Gx))], [(ph, .inl (zI K, 24, .inl Gh))], zSX K n sc Cs i] [(0, .ref ax), (1, .ref pz), (2, .ref pn), (3, .ref pe), (4, .ref pv), (5, .ref px), (6, .ref ph), (7, .int 1), (8, .int (nI i)), (9, .int (nI (cno 3 (Cs i 0) a))), (10, .int (nI a))] [] 190 := by
  intro m9
  induction m9 with
  | zero =>
    intro a ha
    refine z_iload B dL_isFleet_190 10 rfl ?_
    refine z_bipush B (v := 16) dL_isFleet_192 rfl ?_
    refine z_icge B 387 dL_isFleet_194 (by decide) (fun _ => ?_) (fun h => absurd (z_lge0 ha (by decide)) h)
    refine z_lsub [0, 1, 2, 3, 4, 5, 6, 7, 8, 9] rfl ?_
    obtain rfl : a = 16 := by omega
    exact kk
  | succ m9 ih =>
    intro a ha
    refine z_iload B dL_isFleet_190 10 rfl ?_
    refine z_bipush B (v := 16) dL_isFleet_192 rfl ?_
    refine z_icge B 387 dL_isFleet_194 (by decide) (fun h => absurd h (z_lgeS ha (by decide))) (fun _ => ?_)
    refine z_iload B dL_isFleet_197 7 rfl ?_
    refine z_ifeq B 387 dL_isFleet_199 (by decide) (fun h => absurd h (by decide)) (fun _ => ?_)
    refine z_aload_n B dL_isFleet_202 3 rfl ?_
    refine z_iload B dL_isFleet_203 8 rfl ?_
    refine z_iload B dL_isFleet_205 10 rfl ?_
    refine z_S1 B (kL_slot l hl K pe Ge i (nI a) hi4) [8] [0, 1, 2, 3, 4, 5, 6, 7, 9, 10, 11, 12] (br := [zXo ax (az 0) sa (ak 0) tr tc X, zSa K sa f, zSO n so sc D, zCa K (sc i) (Cs i), zZo K az Z W, zCo K ak F O, [(pz, .inl (zI K, 32, .inl Gz))], [(pn, .inl (zI K, 20, .inl Gn))], [(pv, .inl (zI K, 24, .inl Gv))], [(px, .inl (zI K, 24, .inl Gx))], [(ph, .inl (zI K, 24, .inl Gh))], zSX K n sc Cs i]) (bs' := [zXo ax (az 0) sa (ak 0) tr tc X, zSa K sa f, zSO n so sc D, zCa K (sc i) (Cs i), zZo K az Z W, zCo K ak F O, [(pz, .inl (zI K, 32, .inl Gz))], [(pn, .inl (zI K, 20, .inl Gn))], [(pe, .inl (zI K, 24, .inl Ge))], [(pv, .inl (zI K, 24, .inl Gv))], [(px, .inl (zI K, 24, .inl Gx))], [(ph, .inl (zI K, 24, .inl Gh))], zSX K n sc Cs i]) (st := []) (nA := 3) (zspN 13 rfl rfl rfl (by decide +kernel)) (zspN 13 rfl rfl rfl (by decide +kernel)) gL_isFleet_L_slot rfl (by decide +kernel) ⟨Nat.le_of_ble_eq_true rfl, Nat.le_of_ble_eq_true rfl⟩ rfl rfl (Nat.le_of_ble_eq_true rfl) ⟨Nat.le_of_ble_eq_true rfl, Nat.le_of_ble_eq_true rfl⟩ dL_isFleet_207 z_noX (fun _ => ?_)
    refine z_istore B (lv' := [(11, .int (fL_slot Ge i (nI a))), (0, .ref ax), (1, .ref pz), (2, .ref pn), (3, .ref pe), (4, .ref pv), (5, .ref px), (6, .ref ph), (7, .int 1), (8, .int (nI i)), (9, .int (nI (cno 3 (Cs i 0) a))), (10, .int (nI a))]) dL_isFleet_210 (by decide) rfl ?_
    refine z_iload B dL_isFleet_212 10 rfl ?_
    refine z_iload B dL_isFleet_214 0 rfl ?_
    refine z_ifge B 223 dL_isFleet_216 (by decide) (fun c1 => ?_) (fun c1 => ?_)
    · refine z_iconst B (v := 1) dL_isFleet_223 rfl ?_
      refine z_iaddN B (a := cno 3 (Cs i 0) a) (b := 1) dL_isFleet_224 ?_
      refine z_tope (y := nI (cno 3 (Cs i 0) (a + 1))) (f_m1 hR hi (by omega) (f_ge c1)) ?_
      refine z_istore B (lv' := [(9, .int (nI (cno 3 (Cs i 0) (a + 1)))), (11, .int (fL_slot Ge i (nI a))), (0, .ref ax), (1, .ref pz), (2, .ref pn), (3, .ref pe), (4, .ref pv), (5, .ref px), (6, .ref ph), (7, .int 1), (8, .int (nI i)), (10, .int (nI a))]) dL_isFleet_225 (by decide) rfl ?_
      refine z_aload_n B dL_isFleet_227 2 rfl ?_
      refine z_iload B dL_isFleet_228 10 rfl ?_
      refine z_iload B dL_isFleet_230 11 rfl ?_
      refine z_V1 B (kX4_cachedKind_o l hl K ax (az 0) sa (ak 0) tr tc X f n so sc D i (Cs i) (nI a) hi4 hi (z_fcl hf1 hi hi4) (r_n0 (by omega)) (r_n16 (by omega))) [0, 1, 2, 3] [4, 5, 6, 7, 8, 9, 10, 11, 12] (br := [zZo K az Z W, zCo K ak F O, [(pz, .inl (zI K, 32, .inl Gz))], [(pn, .inl (zI K, 20, .inl Gn))], [(pe, .inl (zI K, 24, .inl Ge))], [(pv, .inl (zI K, 24, .inl Gv))], [(px, .inl (zI K, 24, .inl Gx))], [(ph, .inl (zI K, 24, .inl Gh))], zSX K n sc Cs i]) (bs' := [zXo ax (az 0) sa (ak 0) tr tc X, zSa K sa f, zSO n so sc D, zCa K (sc i) (Cs i), zZo K az Z W, zCo K ak F O, [(pz, .inl (zI K, 32, .inl Gz))], [(pn, .inl (zI K, 20, .inl Gn))], [(pe, .inl (zI K, 24, .inl Ge))], [(pv, .inl (zI K, 24, .inl Gv))], [(px, .inl (zI K, 24, .inl Gx))], [(ph, .inl (zI K, 24, .inl Gh))], zSX K n sc Cs i]) (st := []) (nA := 2) (zspN 13 rfl rfl rfl (by decide +kernel)) (zspN 13 rfl rfl rfl (by decide +kernel)) 0 0 rfl rfl rfl rfl gL_isFleet_X4_cachedKind rfl (by decide +kernel) ⟨Nat.le_of_ble_eq_true rfl, Nat.le_of_ble_eq_true rfl⟩ rfl rfl (Nat.le_of_ble_eq_true rfl) ⟨Nat.le_of_ble_eq_true rfl, Nat.le_of_ble_eq_true rfl⟩ dL_isFleet_232 z_noX (fun _ => ?_)
      refine z_iload B dL_isFleet_235 1 rfl ?_
      refine z_ifge B 244 dL_isFleet_237 (by decide) (fun _ => ?_) (fun h => absurd (z_s3 (f_ge c1)) h)
      refine z_aload B dL_isFleet_244 6 rfl ?_
      refine z_iload B dL_isFleet_246 1 rfl ?_
      refine z_ialdn B (N := 24) (f := Gv) (k0 := (fL_slot Ge i (nI a)).toNatClampNeg) (v := (Gv ((fL_slot Ge i (nI a)).toNatClampNeg))) 9 0 rfl rfl (z_ofN (z_slO hi4) (f_ge c1)) rfl rfl dL_isFleet_248 ?_
      refine z_ifle B 256 dL_isFleet_249 (by decide) (fun c2 => ?_) (fun c2 => ?_)
      · refine z_aload B dL_isFleet_256 6 rfl ?_
        refine z_iload B dL_isFleet_258 1 rfl ?_
        refine z_ialdn B (N := 24) (f := Gv) (k0 := (fL_slot Ge i (nI a)).toNatClampNeg) (v := (Gv ((fL_slot Ge i (nI a)).toNatClampNeg))) 9 0 rfl rfl (z_ofN (z_slO hi4) (f_ge c1)) rfl rfl dL_isFleet_260 ?_
        refine z_ifge B 268 dL_isFleet_261 (by decide) (fun c3 => ?_) (fun c3 => ?_)
        · refine z_iconst B (v := 2) dL_isFleet_268 rfl ?_
          refine z_icne B 378 dL_isFleet_269 (by decide) (fun _ => ?_) (fun h => absurd (f_k2 hR hi (by omega) (f_ge c1) c3 c2).1 h)
          refine z_aload_n B dL_isFleet_272 2 rfl ?_
          refine z_iload B dL_isFleet_273 10 rfl ?_
          refine z_iload B dL_isFleet_275 11 rfl ?_
          refine z_V1 B (kX4_cachedValue_o l hl K ax (az 0) sa (ak 0) tr tc X f n so sc D i (Cs i) (nI a) hi4 hi (z_fcl hf1 hi hi4) (r_n0 (by omega)) (r_n16 (by omega))) [0, 1, 2, 3] [4, 5, 6, 7, 8, 9, 10, 11, 12] (br := [zZo K az Z W, zCo K ak F O, [(pz, .inl (zI K, 32, .inl Gz))], [(pn, .inl (zI K, 20, .inl Gn))], [(pe, .inl (zI K, 24, .inl Ge))], [(pv, .inl (zI K, 24, .inl Gv))], [(px, .inl (zI K, 24, .inl Gx))], [(ph, .inl (zI K, 24, .inl Gh))], zSX K n sc Cs i]) (bs' := [zXo ax (az 0) sa (ak 0) tr tc X, zSa K sa f, zSO n so sc D, zCa K (sc i) (Cs i), zZo K az Z W, zCo K ak F O, [(pz, .inl (zI K, 32, .inl Gz))], [(pn, .inl (zI K, 20, .inl Gn))], [(pe, .inl (zI K, 24, .inl Ge))], [(pv, .inl (zI K, 24, .inl Gv))], [(px, .inl (zI K, 24, .inl Gx))], [(ph, .inl (zI K, 24, .inl Gh))], zSX K n sc Cs i]) (st := []) (nA := 2) (zspN 13 rfl rfl rfl (by decide +kernel)) (zspN 13 rfl rfl rfl (by decide +kernel)) 0 0 rfl rfl rfl rfl gL_isFleet_X4_cachedValue rfl (by decide +kernel) ⟨Nat.le_of_ble_eq_true rfl, Nat.le_of_ble_eq_true rfl⟩ rfl rfl (Nat.le_of_ble_eq_true rfl) ⟨Nat.le_of_ble_eq_true rfl, Nat.le_of_ble_eq_true rfl⟩ dL_isFleet_277 z_noX (fun _ => ?_)
          refine z_iload B dL_isFleet_280 1 rfl ?_
          refine z_iflt B 293 dL_isFleet_282 (by decide) (fun h => absurd h (f_ge c1)) (fun _ => ?_)
          refine z_aload B dL_isFleet_285 6 rfl ?_
          refine z_iload B dL_isFleet_287 1 rfl ?_
          refine z_ialdn B (N := 24) (f := Gv) (k0 := (fL_slot Ge i (nI a)).toNatClampNeg) (v := (Gv ((fL_slot Ge i (nI a)).toNatClampNeg))) 9 0 rfl rfl (z_ofN (z_slO hi4) (f_ge c1)) rfl rfl dL_isFleet_289 ?_
          refine z_ifne B 298 dL_isFleet_290 (by decide) (fun _ => ?_) (fun h => absurd (z_s0 c3 c2) h)
          refine z_bipush B (v := (-3)) dL_isFleet_293 rfl ?_
          refine z_goto B (tgt := 321) dL_isFleet_295 (by decide) ?_
          refine z_icne B 378 dL_isFleet_321 (by decide) (fun _ => ?_) (fun h => absurd (f_k2 hR hi (by omega) (f_ge c1) c3 c2).2 h)
          refine z_aload_n B dL_isFleet_324 2 rfl ?_
          refine z_iload B dL_isFleet_325 10 rfl ?_
          refine z_iload B dL_isFleet_327 11 rfl ?_
          refine z_V1 B (kX4_hitsOf_o l hl K ax (az 0) sa (ak 0) tr tc X f n so sc D i (Cs i) (nI a) hi4 hi (z_fcl hf1 hi hi4) (r_n0 (by omega)) (r_n16 (by omega))) [0, 1, 2, 3] [4, 5, 6, 7, 8, 9, 10, 11, 12] (br := [zZo K az Z W, zCo K ak F O, [(pz, .inl (zI K, 32, .inl Gz))], [(pn, .inl (zI K, 20, .inl Gn))], [(pe, .inl (zI K, 24, .inl Ge))], [(pv, .inl (zI K, 24, .inl Gv))], [(px, .inl (zI K, 24, .inl Gx))], [(ph, .inl (zI K, 24, .inl Gh))], zSX K n sc Cs i]) (bs' := [zXo ax (az 0) sa (ak 0) tr tc X, zSa K sa f, zSO n so sc D, zCa K (sc i) (Cs i), zZo K az Z W, zCo K ak F O, [(pz, .inl (zI K, 32, .inl Gz))], [(pn, .inl (zI K, 20, .inl Gn))], [(pe, .inl (zI K, 24, .inl Ge))], [(pv, .inl (zI K, 24, .inl Gv))], [(px, .inl (zI K, 24, .inl Gx))], [(ph, .inl (zI K, 24, .inl Gh))], zSX K n sc Cs i]) (st := []) (nA := 2) (zspN 13 rfl rfl rfl (by decide +kernel)) (zspN 13 rfl rfl rfl (by decide +kernel)) 0 0 rfl rfl rfl rfl gL_isFleet_X4_hitsOf rfl (by decide +kernel) ⟨Nat.le_of_ble_eq_true rfl, Nat.le_of_ble_eq_true rfl⟩ rfl rfl (Nat.le_of_ble_eq_true rfl) ⟨Nat.le_of_ble_eq_true rfl, Nat.le_of_ble_eq_true rfl⟩ dL_isFleet_329 z_noX (fun _ => ?_)
          refine z_iload B dL_isFleet_332 1 rfl ?_
          refine z_ifge B 341 dL_isFleet_334 (by decide) (fun _ => ?_) (fun h => absurd (z_s3 (f_ge c1)) h)
          refine z_aload B dL_isFleet_341 8 rfl ?_
          refine z_iload B dL_isFleet_343 1 rfl ?_
          refine z_ialdn B (N := 24) (f := Gh) (k0 := (fL_slot Ge i (nI a)).toNatClampNeg) (v := (Gh ((fL_slot Ge i (nI a)).toNatClampNeg))) 11 0 rfl rfl (z_ofN (z_slO hi4) (f_ge c1)) rfl rfl dL_isFleet_345 ?_
          refine z_icne B 378 dL_isFleet_346 (by decide) (fun _ => ?_) (fun h => absurd (f_hit hR hi (by omega) (f_ge c1)) h)
          refine z_iload B dL_isFleet_349 1 rfl ?_
          refine z_iflt B 374 dL_isFleet_351 (by decide) (fun h => absurd h (f_ge c1)) (fun _ => ?_)
          refine z_aload_n B dL_isFleet_354 2 rfl ?_
          refine z_iload B dL_isFleet_355 10 rfl ?_
          refine z_iload B dL_isFleet_357 11 rfl ?_
          refine z_V1 B (kX4_left_o l hl K ax (az 0) sa (ak 0) tr tc X f n so sc D i (Cs i) (nI a) hi4 hi (z_fcl hf1 hi hi4) (r_n0 (by omega)) (r_n16 (by omega)) (f_has hR hi (by omega) (f_ge c1))) [0, 1, 2, 3] [4, 5, 6, 7, 8, 9, 10, 11, 12] (br := [zZo K az Z W, zCo K ak F O, [(pz, .inl (zI K, 32, .inl Gz))], [(pn, .inl (zI K, 20, .inl Gn))], [(pe, .inl (zI K, 24, .inl Ge))], [(pv, .inl (zI K, 24, .inl Gv))], [(px, .inl (zI K, 24, .inl Gx))], [(ph, .inl (zI K, 24, .inl Gh))], zSX K n sc Cs i]) (bs' := [zXo ax (az 0) sa (ak 0) tr tc X, zSa K sa f, zSO n so sc D, zCa K (sc i) (Cs i), zZo K az Z W, zCo K ak F O, [(pz, .inl (zI K, 32, .inl Gz))], [(pn, .inl (zI K, 20, .inl Gn))], [(pe, .inl (zI K, 24, .inl Ge))], [(pv, .inl (zI K, 24, .inl Gv))], [(px, .inl (zI K, 24, .inl Gx))], [(ph, .inl (zI K, 24, .inl Gh))], zSX K n sc Cs i]) (st := []) (nA := 2) (zspN 13 rfl rfl rfl (by decide +kernel)) (zspN 13 rfl rfl rfl (by decide +kernel)) 0 0 rfl rfl rfl rfl gL_isFleet_X4_left rfl (by decide +kernel) ⟨Nat.le_of_ble_eq_true rfl, Nat.le_of_ble_eq_true rfl⟩ rfl rfl (Nat.le_of_ble_eq_true rfl) ⟨Nat.le_of_ble_eq_true rfl, Nat.le_of_ble_eq_true rfl⟩ dL_isFleet_359 z_noX (fun _ => ?_)
          refine z_aload B dL_isFleet_362 7 rfl ?_
          refine z_iload B dL_isFleet_364 1 rfl ?_
          refine z_ialdn B (N := 24) (f := Gx) (k0 := (fL_slot Ge i (nI a)).toNatClampNeg) (v := (Gx ((fL_slot Ge i (nI a)).toNatClampNeg))) 10 0 rfl rfl (z_ofN (z_slO hi4) (f_ge c1)) rfl rfl dL_isFleet_366 ?_
          refine z_aload_n B dL_isFleet_367 4 rfl ?_
          refine z_iconst B (v := 0) dL_isFleet_368 rfl ?_
          refine z_ialdn B (N := 20) (f := Gn) (k0 := 0) (v := (Gn 0)) 7 0 rfl rfl (z_vpc (k := 0) rfl (by decide)) rfl rfl dL_isFleet_369 ?_
          refine z_isub B dL_isFleet_370 ?_
          refine z_icne B 378 dL_isFleet_371 (by decide) (fun _ => ?_) (fun h => absurd (f_left hR hi (by omega) (f_ge c1)) h)
          refine z_iconst B (v := 1) dL_isFleet_374 rfl ?_
          refine z_goto B (tgt := 379) dL_isFleet_375 (by decide) ?_
          refine z_istore B (lv' := [(7, .int 1), (9, .int (nI (cno 3 (Cs i 0) (a + 1)))), (11, .int (fL_slot Ge i (nI a))), (0, .ref ax), (1, .ref pz), (2, .ref pn), (3, .ref pe), (4, .ref pv), (5, .ref px), (6, .ref ph), (8, .int (nI i)), (10, .int (nI a))]) dL_isFleet_379 (by decide) rfl ?_
          refine z_iinc B (v := nI (a + 1)) (lv' := [(10, .int (nI (a + 1))), (7, .int 1), (9, .int (nI (cno 3 (Cs i 0) (a + 1)))), (11, .int (fL_slot Ge i (nI a))), (0, .ref ax), (1, .ref pz), (2, .ref pn), (3, .ref pe), (4, .ref pv), (5, .ref px), (6, .ref ph), (8, .int (nI i))]) dL_isFleet_381 11 rfl (nI_1 a) (by decide) rfl ?_
          refine z_goto B (tgt := 190) dL_isFleet_384 (by decide) ?_
          refine z_lsub [4, 5, 6, 7, 8, 9, 10, 1, 11, 2, 0] rfl ?_
          exact ih (a + 1) (by omega)
        · refine z_iconst B (v := 1) dL_isFleet_264 rfl ?_
          refine z_goto B (tgt := 269) dL_isFleet_265 (by decide) ?_
          refine z_icne B 378 dL_isFleet_269 (by decide) (fun _ => ?_) (fun h => absurd (f_k1 hR hi (by omega) (f_ge c1) c3).1 h)
          refine z_aload_n B dL_isFleet_272 2 rfl ?_
          refine z_iload B dL_isFleet_273 10 rfl ?_
          refine z_iload B dL_isFleet_275 11 rfl ?_
          refine z_V1 B (kX4_cachedValue_o l hl K ax (az 0) sa (ak 0) tr tc X f n so sc D i (Cs i) (nI a) hi4 hi (z_fcl hf1 hi hi4) (r_n0 (by omega)) (r_n16 (by omega))) [0, 1, 2, 3] [4, 5, 6, 7, 8, 9, 10, 11, 12] (br := [zZo K az Z W, zCo K ak F O, [(pz, .inl (zI K, 32, .inl Gz))], [(pn, .inl (zI K, 20, .inl Gn))], [(pe, .inl (zI K, 24, .inl Ge))], [(pv, .inl (zI K, 24, .inl Gv))], [(px, .inl (zI K, 24, .inl Gx))], [(ph, .inl (zI K, 24, .inl Gh))], zSX K n sc Cs i]) (bs' := [zXo ax (az 0) sa (ak 0) tr tc X, zSa K sa f, zSO n so sc D, zCa K (sc i) (Cs i), zZo K az Z W, zCo K ak F O, [(pz, .inl (zI K, 32, .inl Gz))], [(pn, .inl (zI K, 20, .inl Gn))], [(pe, .inl (zI K, 24, .inl Ge))], [(pv, .inl (zI K, 24, .inl Gv))], [(px, .inl (zI K, 24, .inl Gx))], [(ph, .inl (zI K, 24, .inl Gh))], zSX K n sc Cs i]) (st := []) (nA := 2) (zspN 13 rfl rfl rfl (by decide +kernel)) (zspN 13 rfl rfl rfl (by decide +kernel)) 0 0 rfl rfl rfl rfl gL_isFleet_X4_cachedValue rfl (by decide +kernel) ⟨Nat.le_of_ble_eq_true rfl, Nat.le_of_ble_eq_true rfl⟩ rfl rfl (Nat.le_of_ble_eq_true rfl) ⟨Nat.le_of_ble_eq_true rfl, Nat.le_of_ble_eq_true rfl⟩ dL_isFleet_277 z_noX (fun _ => ?_)
          refine z_iload B dL_isFleet_280 1 rfl ?_
          refine z_iflt B 293 dL_isFleet_282 (by decide) (fun h => absurd h (f_ge c1)) (fun _ => ?_)
          refine z_aload B dL_isFleet_285 6 rfl ?_
          refine z_iload B dL_isFleet_287 1 rfl ?_
          refine z_ialdn B (N := 24) (f := Gv) (k0 := (fL_slot Ge i (nI a)).toNatClampNeg) (v := (Gv ((fL_slot Ge i (nI a)).toNatClampNeg))) 9 0 rfl rfl (z_ofN (z_slO hi4) (f_ge c1)) rfl rfl dL_isFleet_289 ?_
          refine z_ifne B 298 dL_isFleet_290 (by decide) (fun h => absurd h (z_s2 c3)) (fun _ => ?_)
          refine z_aload B dL_isFleet_298 6 rfl ?_
          refine z_iload B dL_isFleet_300 1 rfl ?_
          refine z_ialdn B (N := 24) (f := Gv) (k0 := (fL_slot Ge i (nI a)).toNatClampNeg) (v := (Gv ((fL_slot Ge i (nI a)).toNatClampNeg))) 9 0 rfl rfl (z_ofN (z_slO hi4) (f_ge c1)) rfl rfl dL_isFleet_302 ?_
          refine z_ifle B 314 dL_isFleet_303 (by decide) (fun _ => ?_) (fun h => absurd (z_s1 c3) h)
          refine z_iconst B (v := (-1)) dL_isFleet_314 rfl ?_
          refine z_aload B dL_isFleet_315 6 rfl ?_
          refine z_iload B dL_isFleet_317 1 rfl ?_
          refine z_ialdn B (N := 24) (f := Gv) (k0 := (fL_slot Ge i (nI a)).toNatClampNeg) (v := (Gv ((fL_slot Ge i (nI a)).toNatClampNeg))) 9 0 rfl rfl (z_ofN (z_slO hi4) (f_ge c1)) rfl rfl dL_isFleet_319 ?_
          refine z_isub B dL_isFleet_320 ?_
          refine z_icne B 378 dL_isFleet_321 (by decide) (fun _ => ?_) (fun h => absurd (f_k1 hR hi (by omega) (f_ge c1) c3).2 h)
          refine z_aload_n B dL_isFleet_324 2 rfl ?_
          refine z_iload B dL_isFleet_325 10 rfl ?_
          refine z_iload B dL_isFleet_327 11 rfl ?_
          refine z_V1 B (kX4_hitsOf_o l hl K ax (az 0) sa (ak 0) tr tc X f n so sc D i (Cs i) (nI a) hi4 hi (z_fcl hf1 hi hi4) (r_n0 (by omega)) (r_n16 (by omega))) [0, 1, 2, 3] [4, 5, 6, 7, 8, 9, 10, 11, 12] (br := [zZo K az Z W, zCo K ak F O, [(pz, .inl (zI K, 32, .inl Gz))], [(pn, .inl (zI K, 20, .inl Gn))], [(pe, .inl (zI K, 24, .inl Ge))], [(pv, .inl (zI K, 24, .inl Gv))], [(px, .inl (zI K, 24, .inl Gx))], [(ph, .inl (zI K, 24, .inl Gh))], zSX K n sc Cs i]) (bs' := [zXo ax (az 0) sa (ak 0) tr tc X, zSa K sa f, zSO n so sc D, zCa K (sc i) (Cs i), zZo K az Z W, zCo K ak F O, [(pz, .inl (zI K, 32, .inl Gz))], [(pn, .inl (zI K, 20, .inl Gn))], [(pe, .inl (zI K, 24, .inl Ge))], [(pv, .inl (zI K, 24, .inl Gv))], [(px, .inl (zI K, 24, .inl Gx))], [(ph, .inl (zI K, 24, .inl Gh))], zSX K n sc Cs i]) (st := []) (nA := 2) (zspN 13 rfl rfl rfl (by decide +kernel)) (zspN 13 rfl rfl rfl (by decide +kernel)) 0 0 rfl rfl rfl rfl gL_isFleet_X4_hitsOf rfl (by decide +kernel) ⟨Nat.le_of_ble_eq_true rfl, Nat.le_of_ble_eq_true rfl⟩ rfl rfl (Nat.le_of_ble_eq_true rfl) ⟨Nat.le_of_ble_eq_true rfl, Nat.le_of_ble_eq_true rfl⟩ dL_isFleet_329 z_noX (fun _ => ?_)
          refine z_iload B dL_isFleet_332 1 rfl ?_
          refine z_ifge B 341 dL_isFleet_334 (by decide) (fun _ => ?_) (fun h => absurd (z_s3 (f_ge c1)) h)
          refine z_aload B dL_isFleet_341 8 rfl ?_
          refine z_iload B dL_isFleet_343 1 rfl ?_
          refine z_ialdn B (N := 24) (f := Gh) (k0 := (fL_slot Ge i (nI a)).toNatClampNeg) (v := (Gh ((fL_slot Ge i (nI a)).toNatClampNeg))) 11 0 rfl rfl (z_ofN (z_slO hi4) (f_ge c1)) rfl rfl dL_isFleet_345 ?_
          refine z_icne B 378 dL_isFleet_346 (by decide) (fun _ => ?_) (fun h => absurd (f_hit hR hi (by omega) (f_ge c1)) h)
          refine z_iload B dL_isFleet_349 1 rfl ?_
          refine z_iflt B 374 dL_isFleet_351 (by decide) (fun h => absurd h (f_ge c1)) (fun _ => ?_)
          refine z_aload_n B dL_isFleet_354 2 rfl ?_
          refine z_iload B dL_isFleet_355 10 rfl ?_
          refine z_iload B dL_isFleet_357 11 rfl ?_
          refine z_V1 B (kX4_left_o l hl K ax (az 0) sa (ak 0) tr tc X f n so sc D i (Cs i) (nI a) hi4 hi (z_fcl hf1 hi hi4) (r_n0 (by omega)) (r_n16 (by omega)) (f_has hR hi (by omega) (f_ge c1))) [0, 1, 2, 3] [4, 5, 6, 7, 8, 9, 10, 11, 12] (br := [zZo K az Z W, zCo K ak F O, [(pz, .inl (zI K, 32, .inl Gz))], [(pn, .inl (zI K, 20, .inl Gn))], [(pe, .inl (zI K, 24, .inl Ge))], [(pv, .inl (zI K, 24, .inl Gv))], [(px, .inl (zI K, 24, .inl Gx))], [(ph, .inl (zI K, 24, .inl Gh))], zSX K n sc Cs i]) (bs' := [zXo ax (az 0) sa (ak 0) tr tc X, zSa K sa f, zSO n so sc D, zCa K (sc i) (Cs i), zZo K az Z W, zCo K ak F O, [(pz, .inl (zI K, 32, .inl Gz))], [(pn, .inl (zI K, 20, .inl Gn))], [(pe, .inl (zI K, 24, .inl Ge))], [(pv, .inl (zI K, 24, .inl Gv))], [(px, .inl (zI K, 24, .inl Gx))], [(ph, .inl (zI K, 24, .inl Gh))], zSX K n sc Cs i]) (st := []) (nA := 2) (zspN 13 rfl rfl rfl (by decide +kernel)) (zspN 13 rfl rfl rfl (by decide +kernel)) 0 0 rfl rfl rfl rfl gL_isFleet_X4_left rfl (by decide +kernel) ⟨Nat.le_of_ble_eq_true rfl, Nat.le_of_ble_eq_true rfl⟩ rfl rfl (Nat.le_of_ble_eq_true rfl) ⟨Nat.le_of_ble_eq_true rfl, Nat.le_of_ble_eq_true rfl⟩ dL_isFleet_359 z_noX (fun _ => ?_)
          refine z_aload B dL_isFleet_362 7 rfl ?_
          refine z_iload B dL_isFleet_364 1 rfl ?_
          refine z_ialdn B (N := 24) (f := Gx) (k0 := (fL_slot Ge i (nI a)).toNatClampNeg) (v := (Gx ((fL_slot Ge i (nI a)).toNatClampNeg))) 10 0 rfl rfl (z_ofN (z_slO hi4) (f_ge c1)) rfl rfl dL_isFleet_366 ?_
          refine z_aload_n B dL_isFleet_367 4 rfl ?_
          refine z_iconst B (v := 0) dL_isFleet_368 rfl ?_
          refine z_ialdn B (N := 20) (f := Gn) (k0 := 0) (v := (Gn 0)) 7 0 rfl rfl (z_vpc (k := 0) rfl (by decide)) rfl rfl dL_isFleet_369 ?_
          refine z_isub B dL_isFleet_370 ?_
          refine z_icne B 378 dL_isFleet_371 (by decide) (fun _ => ?_) (fun h => absurd (f_left hR hi (by omega) (f_ge c1)) h)
          refine z_iconst B (v := 1) dL_isFleet_374 rfl ?_
          refine z_goto B (tgt := 379) dL_isFleet_375 (by decide) ?_
          refine z_istore B (lv' := [(7, .int 1), (9, .int (nI (cno 3 (Cs i 0) (a + 1)))), (11, .int (fL_slot Ge i (nI a))), (0, .ref ax), (1, .ref pz), (2, .ref pn), (3, .ref pe), (4, .ref pv), (5, .ref px), (6, .ref ph), (8, .int (nI i)), (10, .int (nI a))]) dL_isFleet_379 (by decide) rfl ?_
          refine z_iinc B (v := nI (a + 1)) (lv' := [(10, .int (nI (a + 1))), (7, .int 1), (9, .int (nI (cno 3 (Cs i 0) (a + 1)))), (11, .int (fL_slot Ge i (nI a))), (0, .ref ax), (1, .ref pz), (2, .ref pn), (3, .ref pe), (4, .ref pv), (5, .ref px), (6, .ref ph), (8, .int (nI i))]) dL_isFleet_381 11 rfl (nI_1 a) (by decide) rfl ?_
          refine z_goto B (tgt := 190) dL_isFleet_384 (by decide) ?_
          refine z_lsub [4, 5, 6, 7, 8, 9, 10, 1, 11, 2, 0] rfl ?_
          exact ih (a + 1) (by omega)
      · refine z_iconst B (v := 0) dL_isFleet_252 rfl ?_
        refine z_goto B (tgt := 269) dL_isFleet_253 (by decide) ?_
        refine z_icne B 378 dL_isFleet_269 (by decide) (fun _ => ?_) (fun h => absurd (f_k0 hR hi (by omega) (f_ge c1) c2).1 h)
        refine z_aload_n B dL_isFleet_272 2 rfl ?_
        refine z_iload B dL_isFleet_273 10 rfl ?_
        refine z_iload B dL_isFleet_275 11 rfl ?_
        refine z_V1 B (kX4_cachedValue_o l hl K ax (az 0) sa (ak 0) tr tc X f n so sc D i (Cs i) (nI a) hi4 hi (z_fcl hf1 hi hi4) (r_n0 (by omega)) (r_n16 (by omega))) [0, 1, 2, 3] [4, 5, 6, 7, 8, 9, 10, 11, 12] (br := [zZo K az Z W, zCo K ak F O, [(pz, .inl (zI K, 32, .inl Gz))], [(pn, .inl (zI K, 20, .inl Gn))], [(pe, .inl (zI K, 24, .inl Ge))], [(pv, .inl (zI K, 24, .inl Gv))], [(px, .inl (zI K, 24, .inl Gx))], [(ph, .inl (zI K, 24, .inl Gh))], zSX K n sc Cs i]) (bs' := [zXo ax (az 0) sa (ak 0) tr tc X, zSa K sa f, zSO n so sc D, zCa K (sc i) (Cs i), zZo K az Z W, zCo K ak F O, [(pz, .inl (zI K, 32, .inl Gz))], [(pn, .inl (zI K, 20, .inl Gn))], [(pe, .inl (zI K, 24, .inl Ge))], [(pv, .inl (zI K, 24, .inl Gv))], [(px, .inl (zI K, 24, .inl Gx))], [(ph, .inl (zI K, 24, .inl Gh))], zSX K n sc Cs i]) (st := []) (nA := 2) (zspN 13 rfl rfl rfl (by decide +kernel)) (zspN 13 rfl rfl rfl (by decide +kernel)) 0 0 rfl rfl rfl rfl gL_isFleet_X4_cachedValue rfl (by decide +kernel) ⟨Nat.le_of_ble_eq_true rfl, Nat.le_of_ble_eq_true rfl⟩ rfl rfl (Nat.le_of_ble_eq_true rfl) ⟨Nat.le_of_ble_eq_true rfl, Nat.le_of_ble_eq_true rfl⟩ dL_isFleet_277 z_noX (fun _ => ?_)
        refine z_iload B dL_isFleet_280 1 rfl ?_
        refine z_iflt B 293 dL_isFleet_282 (by decide) (fun h => absurd h (f_ge c1)) (fun _ => ?_)
        refine z_aload B dL_isFleet_285 6 rfl ?_
        refine z_iload B dL_isFleet_287 1 rfl ?_
        refine z_ialdn B (N := 24) (f := Gv) (k0 := (fL_slot Ge i (nI a)).toNatClampNeg) (v := (Gv ((fL_slot Ge i (nI a)).toNatClampNeg))) 9 0 rfl rfl (z_ofN (z_slO hi4) (f_ge c1)) rfl rfl dL_isFleet_289 ?_
        refine z_ifne B 298 dL_isFleet_290 (by decide) (fun h => absurd h (fun e => absurd (by rw [e]; decide) c2)) (fun _ => ?_)
        refine z_aload B dL_isFleet_298 6 rfl ?_
        refine z_iload B dL_isFleet_300 1 rfl ?_
        refine z_ialdn B (N := 24) (f := Gv) (k0 := (fL_slot Ge i (nI a)).toNatClampNeg) (v := (Gv ((fL_slot Ge i (nI a)).toNatClampNeg))) 9 0 rfl rfl (z_ofN (z_slO hi4) (f_ge c1)) rfl rfl dL_isFleet_302 ?_
        refine z_ifle B 314 dL_isFleet_303 (by decide) (fun h => absurd h c2) (fun _ => ?_)
        refine z_aload B dL_isFleet_306 6 rfl ?_
        refine z_iload B dL_isFleet_308 1 rfl ?_
        refine z_ialdn B (N := 24) (f := Gv) (k0 := (fL_slot Ge i (nI a)).toNatClampNeg) (v := (Gv ((fL_slot Ge i (nI a)).toNatClampNeg))) 9 0 rfl rfl (z_ofN (z_slO hi4) (f_ge c1)) rfl rfl dL_isFleet_310 ?_
        refine z_goto B (tgt := 321) dL_isFleet_311 (by decide) ?_
        refine z_icne B 378 dL_isFleet_321 (by decide) (fun _ => ?_) (fun h => absurd (f_k0 hR hi (by omega) (f_ge c1) c2).2 h)
        refine z_aload_n B dL_isFleet_324 2 rfl ?_
        refine z_iload B dL_isFleet_325 10 rfl ?_
        refine z_iload B dL_isFleet_327 11 rfl ?_
        refine z_V1 B (kX4_hitsOf_o l hl K ax (az 0) sa (ak 0) tr tc X f n so sc D i (Cs i) (nI a) hi4 hi (z_fcl hf1 hi hi4) (r_n0 (by omega)) (r_n16 (by omega))) [0, 1, 2, 3] [4, 5, 6, 7, 8, 9, 10, 11, 12] (br := [zZo K az Z W, zCo K ak F O, [(pz, .inl (zI K, 32, .inl Gz))], [(pn, .inl (zI K, 20, .inl Gn))], [(pe, .inl (zI K, 24, .inl Ge))], [(pv, .inl (zI K, 24, .inl Gv))], [(px, .inl (zI K, 24, .inl Gx))], [(ph, .inl (zI K, 24, .inl Gh))], zSX K n sc Cs i]) (bs' := [zXo ax (az 0) sa (ak 0) tr tc X, zSa K sa f, zSO n so sc D, zCa K (sc i) (Cs i), zZo K az Z W, zCo K ak F O, [(pz, .inl (zI K, 32, .inl Gz))], [(pn, .inl (zI K, 20, .inl Gn))], [(pe, .inl (zI K, 24, .inl Ge))], [(pv, .inl (zI K, 24, .inl Gv))], [(px, .inl (zI K, 24, .inl Gx))], [(ph, .inl (zI K, 24, .inl Gh))], zSX K n sc Cs i]) (st := []) (nA := 2) (zspN 13 rfl rfl rfl (by decide +kernel)) (zspN 13 rfl rfl rfl (by decide +kernel)) 0 0 rfl rfl rfl rfl gL_isFleet_X4_hitsOf rfl (by decide +kernel) ⟨Nat.le_of_ble_eq_true rfl, Nat.le_of_ble_eq_true rfl⟩ rfl rfl (Nat.le_of_ble_eq_true rfl) ⟨Nat.le_of_ble_eq_true rfl, Nat.le_of_ble_eq_true rfl⟩ dL_isFleet_329 z_noX (fun _ => ?_)
        refine z_iload B dL_isFleet_332 1 rfl ?_
        refine z_ifge B 341 dL_isFleet_334 (by decide) (fun _ => ?_) (fun h => absurd (z_s3 (f_ge c1)) h)
        refine z_aload B dL_isFleet_341 8 rfl ?_
        refine z_iload B dL_isFleet_343 1 rfl ?_
        refine z_ialdn B (N := 24) (f := Gh) (k0 := (fL_slot Ge i (nI a)).toNatClampNeg) (v := (Gh ((fL_slot Ge i (nI a)).toNatClampNeg))) 11 0 rfl rfl (z_ofN (z_slO hi4) (f_ge c1)) rfl rfl dL_isFleet_345 ?_
        refine z_icne B 378 dL_isFleet_346 (by decide) (fun _ => ?_) (fun h => absurd (f_hit hR hi (by omega) (f_ge c1)) h)
        refine z_iload B dL_isFleet_349 1 rfl ?_
        refine z_iflt B 374 dL_isFleet_351 (by decide) (fun h => absurd h (f_ge c1)) (fun _ => ?_)
        refine z_aload_n B dL_isFleet_354 2 rfl ?_
        refine z_iload B dL_isFleet_355 10 rfl ?_
        refine z_iload B dL_isFleet_357 11 rfl ?_
        refine z_V1 B (kX4_left_o l hl K ax (az 0) sa (ak 0) tr tc X f n so sc D i (Cs i) (nI a) hi4 hi (z_fcl hf1 hi hi4) (r_n0 (by omega)) (r_n16 (by omega)) (f_has hR hi (by omega) (f_ge c1))) [0, 1, 2, 3] [4, 5, 6, 7, 8, 9, 10, 11, 12] (br := [zZo K az Z W, zCo K ak F O, [(pz, .inl (zI K, 32, .inl Gz))], [(pn, .inl (zI K, 20, .inl Gn))], [(pe, .inl (zI K, 24, .inl Ge))], [(pv, .inl (zI K, 24, .inl Gv))], [(px, .inl (zI K, 24, .inl Gx))], [(ph, .inl (zI K, 24, .inl Gh))], zSX K n sc Cs i]) (bs' := [zXo ax (az 0) sa (ak 0) tr tc X, zSa K sa f, zSO n so sc D, zCa K (sc i) (Cs i), zZo K az Z W, zCo K ak F O, [(pz, .inl (zI K, 32, .inl Gz))], [(pn, .inl (zI K, 20, .inl Gn))], [(pe, .inl (zI K, 24, .inl Ge))], [(pv, .inl (zI K, 24, .inl Gv))], [(px, .inl (zI K, 24, .inl Gx))], [(ph, .inl (zI K, 24, .inl Gh))], zSX K n sc Cs i]) (st := []) (nA := 2) (zspN 13 rfl rfl rfl (by decide +kernel)) (zspN 13 rfl rfl rfl (by decide +kernel)) 0 0 rfl rfl rfl rfl gL_isFleet_X4_left rfl (by decide +kernel) ⟨Nat.le_of_ble_eq_true rfl, Nat.le_of_ble_eq_true rfl⟩ rfl rfl (Nat.le_of_ble_eq_true rfl) ⟨Nat.le_of_ble_eq_true rfl, Nat.le_of_ble_eq_true rfl⟩ dL_isFleet_359 z_noX (fun _ => ?_)
        refine z_aload B dL_isFleet_362 7 rfl ?_
        refine z_iload B dL_isFleet_364 1 rfl ?_
        refine z_ialdn B (N := 24) (f := Gx) (k0 := (fL_slot Ge i (nI a)).toNatClampNeg) (v := (Gx ((fL_slot Ge i (nI a)).toNatClampNeg))) 10 0 rfl rfl (z_ofN (z_slO hi4) (f_ge c1)) rfl rfl dL_isFleet_366 ?_
        refine z_aload_n B dL_isFleet_367 4 rfl ?_
        refine z_iconst B (v := 0) dL_isFleet_368 rfl ?_
        refine z_ialdn B (N := 20) (f := Gn) (k0 := 0) (v := (Gn 0)) 7 0 rfl rfl (z_vpc (k := 0) rfl (by decide)) rfl rfl dL_isFleet_369 ?_
        refine z_isub B dL_isFleet_370 ?_
        refine z_icne B 378 dL_isFleet_371 (by decide) (fun _ => ?_) (fun h => absurd (f_left hR hi (by omega) (f_ge c1)) h)
        refine z_iconst B (v := 1) dL_isFleet_374 rfl ?_
        refine z_goto B (tgt := 379) dL_isFleet_375 (by decide) ?_
        refine z_istore B (lv' := [(7, .int 1), (9, .int (nI (cno 3 (Cs i 0) (a + 1)))), (11, .int (fL_slot Ge i (nI a))), (0, .ref ax), (1, .ref pz), (2, .ref pn), (3, .ref pe), (4, .ref pv), (5, .ref px), (6, .ref ph), (8, .int (nI i)), (10, .int (nI a))]) dL_isFleet_379 (by decide) rfl ?_
        refine z_iinc B (v := nI (a + 1)) (lv' := [(10, .int (nI (a + 1))), (7, .int 1), (9, .int (nI (cno 3 (Cs i 0) (a + 1)))), (11, .int (fL_slot Ge i (nI a))), (0, .ref ax), (1, .ref pz), (2, .ref pn), (3, .ref pe), (4, .ref pv), (5, .ref px), (6, .ref ph), (8, .int (nI i))]) dL_isFleet_381 11 rfl (nI_1 a) (by decide) rfl ?_
        refine z_goto B (tgt := 190) dL_isFleet_384 (by decide) ?_
        refine z_lsub [4, 5, 6, 7, 8, 9, 10, 1, 11, 2, 0] rfl ?_
        exact ih (a + 1) (by omega)
    · refine z_iconst B (v := 0) dL_isFleet_219 rfl ?_
      refine z_goto B (tgt := 224) dL_isFleet_220 (by decide) ?_
      refine z_iaddN B (a := cno 3 (Cs i 0) a) (b := 0) dL_isFleet_224 ?_
      refine z_tope (y := nI (cno 3 (Cs i 0) (a + 1))) (f_m0 hR hi (by omega) (f_lt c1)) ?_
      refine z_istore B (lv' := [(9, .int (nI (cno 3 (Cs i 0) (a + 1)))), (11, .int (fL_slot Ge i (nI a))), (0, .ref ax), (1, .ref pz), (2, .ref pn), (3, .ref pe), (4, .ref pv), (5, .ref px), (6, .ref ph), (7, .int 1), (8, .int (nI i)), (10, .int (nI a))]) dL_isFleet_225 (by decide) rfl ?_
      refine z_aload_n B dL_isFleet_227 2 rfl ?_
      refine z_iload B dL_isFleet_228 10 rfl ?_
      refine z_iload B dL_isFleet_230 11 rfl ?_
      refine z_V1 B (kX4_cachedKind_o l hl K ax (az 0) sa (ak 0) tr tc X f n so sc D i (Cs i) (nI a) hi4 hi (z_fcl hf1 hi hi4) (r_n0 (by omega)) (r_n16 (by omega))) [0, 1, 2, 3] [4, 5, 6, 7, 8, 9, 10, 11, 12] (br := [zZo K az Z W, zCo K ak F O, [(pz, .inl (zI K, 32, .inl Gz))], [(pn, .inl (zI K, 20, .inl Gn))], [(pe, .inl (zI K, 24, .inl Ge))], [(pv, .inl (zI K, 24, .inl Gv))], [(px, .inl (zI K, 24, .inl Gx))], [(ph, .inl (zI K, 24, .inl Gh))], zSX K n sc Cs i]) (bs' := [zXo ax (az 0) sa (ak 0) tr tc X, zSa K sa f, zSO n so sc D, zCa K (sc i) (Cs i), zZo K az Z W, zCo K ak F O, [(pz, .inl (zI K, 32, .inl Gz))], [(pn, .inl (zI K, 20, .inl Gn))], [(pe, .inl (zI K, 24, .inl Ge))], [(pv, .inl (zI K, 24, .inl Gv))], [(px, .inl (zI K, 24, .inl Gx))], [(ph, .inl (zI K, 24, .inl Gh))], zSX K n sc Cs i]) (st := []) (nA := 2) (zspN 13 rfl rfl rfl (by decide +kernel)) (zspN 13 rfl rfl rfl (by decide +kernel)) 0 0 rfl rfl rfl rfl gL_isFleet_X4_cachedKind rfl (by decide +kernel) ⟨Nat.le_of_ble_eq_true rfl, Nat.le_of_ble_eq_true rfl⟩ rfl rfl (Nat.le_of_ble_eq_true rfl) ⟨Nat.le_of_ble_eq_true rfl, Nat.le_of_ble_eq_true rfl⟩ dL_isFleet_232 z_noX (fun _ => ?_)
      refine z_iload B dL_isFleet_235 1 rfl ?_
      refine z_ifge B 244 dL_isFleet_237 (by decide) (fun h => absurd h (Int32.not_le.mpr (f_lt c1))) (fun _ => ?_)
      refine z_iconst B (v := 3) dL_isFleet_240 rfl ?_
      refine z_goto B (tgt := 269) dL_isFleet_241 (by decide) ?_
      refine z_icne B 378 dL_isFleet_269 (by decide) (fun _ => ?_) (fun h => absurd (f_k3 hR hi (by omega) (f_lt c1)) h)
      refine z_aload_n B dL_isFleet_272 2 rfl ?_
      refine z_iload B dL_isFleet_273 10 rfl ?_
      refine z_iload B dL_isFleet_275 11 rfl ?_
      refine z_V1 B (kX4_cachedValue_o l hl K ax (az 0) sa (ak 0) tr tc X f n so sc D i (Cs i) (nI a) hi4 hi (z_fcl hf1 hi hi4) (r_n0 (by omega)) (r_n16 (by omega))) [0, 1, 2, 3] [4, 5, 6, 7, 8, 9, 10, 11, 12] (br := [zZo K az Z W, zCo K ak F O, [(pz, .inl (zI K, 32, .inl Gz))], [(pn, .inl (zI K, 20, .inl Gn))], [(pe, .inl (zI K, 24, .inl Ge))], [(pv, .inl (zI K, 24, .inl Gv))], [(px, .inl (zI K, 24, .inl Gx))], [(ph, .inl (zI K, 24, .inl Gh))], zSX K n sc Cs i]) (bs' := [zXo ax (az 0) sa (ak 0) tr tc X, zSa K sa f, zSO n so sc D, zCa K (sc i) (Cs i), zZo K az Z W, zCo K ak F O, [(pz, .inl (zI K, 32, .inl Gz))], [(pn, .inl (zI K, 20, .inl Gn))], [(pe, .inl (zI K, 24, .inl Ge))], [(pv, .inl (zI K, 24, .inl Gv))], [(px, .inl (zI K, 24, .inl Gx))], [(ph, .inl (zI K, 24, .inl Gh))], zSX K n sc Cs i]) (st := []) (nA := 2) (zspN 13 rfl rfl rfl (by decide +kernel)) (zspN 13 rfl rfl rfl (by decide +kernel)) 0 0 rfl rfl rfl rfl gL_isFleet_X4_cachedValue rfl (by decide +kernel) ⟨Nat.le_of_ble_eq_true rfl, Nat.le_of_ble_eq_true rfl⟩ rfl rfl (Nat.le_of_ble_eq_true rfl) ⟨Nat.le_of_ble_eq_true rfl, Nat.le_of_ble_eq_true rfl⟩ dL_isFleet_277 z_noX (fun _ => ?_)
      refine z_iload B dL_isFleet_280 1 rfl ?_
      refine z_iflt B 293 dL_isFleet_282 (by decide) (fun _ => ?_) (fun h => absurd (f_lt c1) h)
      refine z_bipush B (v := (-3)) dL_isFleet_293 rfl ?_
      refine z_goto B (tgt := 321) dL_isFleet_295 (by decide) ?_
      refine z_icne B 378 dL_isFleet_321 (by decide) (fun _ => ?_) (fun h => absurd (f_v3 hR hi (by omega) (f_lt c1)) h)
      refine z_aload_n B dL_isFleet_324 2 rfl ?_
      refine z_iload B dL_isFleet_325 10 rfl ?_
      refine z_iload B dL_isFleet_327 11 rfl ?_
      refine z_V1 B (kX4_hitsOf_o l hl K ax (az 0) sa (ak 0) tr tc X f n so sc D i (Cs i) (nI a) hi4 hi (z_fcl hf1 hi hi4) (r_n0 (by omega)) (r_n16 (by omega))) [0, 1, 2, 3] [4, 5, 6, 7, 8, 9, 10, 11, 12] (br := [zZo K az Z W, zCo K ak F O, [(pz, .inl (zI K, 32, .inl Gz))], [(pn, .inl (zI K, 20, .inl Gn))], [(pe, .inl (zI K, 24, .inl Ge))], [(pv, .inl (zI K, 24, .inl Gv))], [(px, .inl (zI K, 24, .inl Gx))], [(ph, .inl (zI K, 24, .inl Gh))], zSX K n sc Cs i]) (bs' := [zXo ax (az 0) sa (ak 0) tr tc X, zSa K sa f, zSO n so sc D, zCa K (sc i) (Cs i), zZo K az Z W, zCo K ak F O, [(pz, .inl (zI K, 32, .inl Gz))], [(pn, .inl (zI K, 20, .inl Gn))], [(pe, .inl (zI K, 24, .inl Ge))], [(pv, .inl (zI K, 24, .inl Gv))], [(px, .inl (zI K, 24, .inl Gx))], [(ph, .inl (zI K, 24, .inl Gh))], zSX K n sc Cs i]) (st := []) (nA := 2) (zspN 13 rfl rfl rfl (by decide +kernel)) (zspN 13 rfl rfl rfl (by decide +kernel)) 0 0 rfl rfl rfl rfl gL_isFleet_X4_hitsOf rfl (by decide +kernel) ⟨Nat.le_of_ble_eq_true rfl, Nat.le_of_ble_eq_true rfl⟩ rfl rfl (Nat.le_of_ble_eq_true rfl) ⟨Nat.le_of_ble_eq_true rfl, Nat.le_of_ble_eq_true rfl⟩ dL_isFleet_329 z_noX (fun _ => ?_)
      refine z_iload B dL_isFleet_332 1 rfl ?_
      refine z_ifge B 341 dL_isFleet_334 (by decide) (fun h => absurd h (Int32.not_le.mpr (f_lt c1))) (fun _ => ?_)
      refine z_iconst B (v := 0) dL_isFleet_337 rfl ?_
      refine z_goto B (tgt := 346) dL_isFleet_338 (by decide) ?_
      refine z_icne B 378 dL_isFleet_346 (by decide) (fun _ => ?_) (fun h => absurd (f_h0 hR hi (by omega) (f_lt c1)) h)
      refine z_iload B dL_isFleet_349 1 rfl ?_
      refine z_iflt B 374 dL_isFleet_351 (by decide) (fun _ => ?_) (fun h => absurd (f_lt c1) h)
      refine z_iconst B (v := 1) dL_isFleet_374 rfl ?_
      refine z_goto B (tgt := 379) dL_isFleet_375 (by decide) ?_
      refine z_istore B (lv' := [(7, .int 1), (9, .int (nI (cno 3 (Cs i 0) (a + 1)))), (11, .int (fL_slot Ge i (nI a))), (0, .ref ax), (1, .ref pz), (2, .ref pn), (3, .ref pe), (4, .ref pv), (5, .ref px), (6, .ref ph), (8, .int (nI i)), (10, .int (nI a))]) dL_isFleet_379 (by decide) rfl ?_
      refine z_iinc B (v := nI (a + 1)) (lv' := [(10, .int (nI (a + 1))), (7, .int 1), (9, .int (nI (cno 3 (Cs i 0) (a + 1)))), (11, .int (fL_slot Ge i (nI a))), (0, .ref ax), (1, .ref pz), (2, .ref pn), (3, .ref pe), (4, .ref pv), (5, .ref px), (6, .ref ph), (8, .int (nI i))]) dL_isFleet_381 11 rfl (nI_1 a) (by decide) rfl ?_
      refine z_goto B (tgt := 190) dL_isFleet_384 (by decide) ?_
      refine z_lsub [4, 5, 6, 7, 8, 9, 10, 1, 11, 2, 0] rfl ?_
      exact ih (a + 1) (by omega)
set_option maxHeartbeats 4000000 in
set_option maxRecDepth 100000 in
theorem kL_isFleet_B (l : Launch) (hl : l.stackTraces = false) (K : zK) (ax : Nat) (az : Nat → Nat) (sa : Nat) (ak : Nat → Nat) (tr : Nat) (tc : Nat) (X : Nat → Int32) (f : Nat → Option Nat) (n : Nat) (so : Nat → Nat) (sc : Nat → Nat → Nat) (D : Nat → Nat → Int32) (Cs : Nat → Nat → Nat → Int32) (Z : Nat → Nat → Int32) (W : Nat → Int32) (F : Nat → Int32) (O : Nat → Int32) (pz : Nat) (pn : Nat) (pe : Nat) (pv : Nat) (px : Nat) (ph : Nat) (Gz : Nat → Int32) (Gn : Nat → Int32) (Ge : Nat → Int32) (Gv : Nat → Int32) (Gl : Nat → Int32) (Gx : Nat → Int32) (Gh : Nat → Int32) (T : Nat) (hf1 : ∀ a, a < n → f a = some (so a)) (hR : rA T n X Z W D Cs O Gz Gn Ge Gv Gl Gx Gh) {p : Program} {e : Env} {s : State} {m : MethodId} {args : Array Value} {below : List Frame} {meth : Method} {c : Code} {A : Nat → Prop} (B : zF K p l s m args meth c A cL_isFleet 12 RL "isFleet" wsL_isFleet (some .boolean) []) : ∀ (m9 a : Nat), a + m9 = n → zW K p l e { frames := 3, cells := 0, slots := 0, locals := 68 } s m args below meth c A (vx_MQ below (zQ K A (fun _ : Unit => (some (.int 1), [zXo ax (az 0) sa (ak 0) tr tc X, zSa K sa f, zSO n so sc D, zSC K n sc Cs, zZo K az Z W, zCo K ak F O, [(pz, .inl (zI K, 32, .inl Gz))], [(pn, .inl (zI K, 20, .inl Gn))], [(pe, .inl (zI K, 24, .inl Ge))], [(pv, .inl (zI K, 24, .inl Gv))], [(px, .inl (zI K, 24, .inl Gx))], [(ph, .inl (zI K, 24, .inl Gh))]])) (fun _ => True)) (zX K A [zXo ax (az 0) sa (ak 0) tr tc X, zSa K sa f, zSO n so sc D, zSC K n sc Cs, zZo K az Z W, zCo K ak F O, [(pz, .inl (zI K, 32, .inl Gz))], [(pn, .inl (zI K, 20, .inl Gn))], [(pe, .inl (zI K, 24, .inl Ge))], [(pv, .inl (zI K, 24, .inl Gv))], [(px, .inl (zI K, 24, .inl Gx))], [(ph, .inl (zI K, 24, .inl Gh))]] zNo) args s 0 0 A) 0 0 [zXo ax (az 0) sa (ak 0) tr tc X, zSa K sa f, zSO n so sc D, zSC K n sc Cs, zZo K az Z W, zCo K ak F O, [(pz, .inl (zI K, 32, .inl Gz))], [(pn, .inl (zI K, 20, .inl Gn))], [(pe, .inl (zI K, 24, .inl Ge))], [(pv, .inl (zI K, 24, .inl Gv))], [(px, .inl (zI K, 24, .inl Gx))], [(ph, .inl (zI K, 24, .inl Gh))]] [(0, .ref ax), (1, .ref pz), (2, .ref pn), (3, .ref pe), (4, .ref pv), (5, .ref px), (6, .ref ph), (7, .int 1), (8, .int (nI a))] [] 171 := by
  intro m9
  induction m9 with
  | zero =>
    intro a ha
    refine z_iload B dL_isFleet_171 8 rfl ?_
    refine z_aload_n B dL_isFleet_173 2 rfl ?_
    refine z_iconst B (v := 3) dL_isFleet_174 rfl ?_
    refine z_ialdn B (N := 20) (f := Gn) (k0 := 3) (v := (Gn 3)) 7 0 rfl rfl (z_vpc (k := 3) rfl (by decide)) rfl rfl dL_isFleet_175 ?_
    refine z_icge B 416 dL_isFleet_176 (by decide) (fun _ => ?_) (fun h => absurd (f_n0 hR ha) h)
    refine z_iload B dL_isFleet_416 7 rfl ?_
    exact z_ret1 B rfl dL_isFleet_418 () trivial (Nat.le_of_ble_eq_true rfl) (Nat.le_of_ble_eq_true rfl) rfl rfl
  | succ m9 ih =>
    intro a ha
    refine z_iload B dL_isFleet_171 8 rfl ?_
    refine z_aload_n B dL_isFleet_173 2 rfl ?_
    refine z_iconst B (v := 3) dL_isFleet_174 rfl ?_
    refine z_ialdn B (N := 20) (f := Gn) (k0 := 3) (v := (Gn 3)) 7 0 rfl rfl (z_vpc (k := 3) rfl (by decide)) rfl rfl dL_isFleet_175 ?_
    refine z_icge B 416 dL_isFleet_176 (by decide) (fun h => absurd h (f_nS hR ha)) (fun _ => ?_)
    refine z_iload B dL_isFleet_179 7 rfl ?_
    refine z_ifeq B 416 dL_isFleet_181 (by decide) (fun h => absurd h (by decide)) (fun _ => ?_)
    refine z_iconst B (v := 0) dL_isFleet_184 rfl ?_
    refine z_istore B (lv' := [(9, .int 0), (0, .ref ax), (1, .ref pz), (2, .ref pn), (3, .ref pe), (4, .ref pv), (5, .ref px), (6, .ref ph), (7, .int 1), (8, .int (nI a))]) dL_isFleet_185 (by decide) rfl ?_
    refine z_iconst B (v := 0) dL_isFleet_187 rfl ?_
    refine z_istore B (lv' := [(10, .int 0), (9, .int 0), (0, .ref ax), (1, .ref pz), (2, .ref pn), (3, .ref pe), (4, .ref pv), (5, .ref px), (6, .ref ph), (7, .int 1), (8, .int (nI a))]) dL_isFleet_188 (by decide) rfl ?_
    have hi : a < n := by omega
    have hi4 : a < 4 := by have := hR.1.1; omega
    refine z_perm (bs' := [zXo ax (az 0) sa (ak 0) tr tc X, zSa K sa f, zSO n so sc D, zCa K (sc a) (Cs a), zZo K az Z W, zCo K ak F O, [(pz, .inl (zI K, 32, .inl Gz))], [(pn, .inl (zI K, 20, .inl Gn))], [(pe, .inl (zI K, 24, .inl Ge))], [(pv, .inl (zI K, 24, .inl Gv))], [(px, .inl (zI K, 24, .inl Gx))], [(ph, .inl (zI K, 24, .inl Gh))], zSX K n sc Cs a]) (zI_p (zSC_split hi)) ?_
    refine z_lsub [2, 3, 4, 5, 6, 7, 8, 9, 10, 1, 0] rfl ?_
    refine kL_isFleet_A l hl K ax az sa ak tr tc X f n so sc D Cs Z W F O pz pn pe pv px ph Gz Gn Ge Gv Gl Gx Gh T hf1 hR (i := a) hi hi4 B (Q := _) ?_ 16 0 rfl
    refine z_iload B dL_isFleet_387 7 rfl ?_
    refine z_ifeq B 407 dL_isFleet_389 (by decide) (fun h => absurd h (by decide)) (fun _ => ?_)
    refine z_aload_n B dL_isFleet_392 0 rfl ?_
    refine z_iload B dL_isFleet_393 8 rfl ?_
    refine z_V1 B (kX4_entries_h l hl K ax (az 0) sa (ak 0) tr tc X f n so sc D a (Cs a) hi4 hi (z_fcl hf1 hi hi4)) [0, 1, 2, 3] [4, 5, 6, 7, 8, 9, 10, 11, 12] (br := [zZo K az Z W, zCo K ak F O, [(pz, .inl (zI K, 32, .inl Gz))], [(pn, .inl (zI K, 20, .inl Gn))], [(pe, .inl (zI K, 24, .inl Ge))], [(pv, .inl (zI K, 24, .inl Gv))], [(px, .inl (zI K, 24, .inl Gx))], [(ph, .inl (zI K, 24, .inl Gh))], zSX K n sc Cs a]) (bs' := [zXo ax (az 0) sa (ak 0) tr tc X, zSa K sa f, zSO n so sc D, zCa K (sc a) (Cs a), zZo K az Z W, zCo K ak F O, [(pz, .inl (zI K, 32, .inl Gz))], [(pn, .inl (zI K, 20, .inl Gn))], [(pe, .inl (zI K, 24, .inl Ge))], [(pv, .inl (zI K, 24, .inl Gv))], [(px, .inl (zI K, 24, .inl Gx))], [(ph, .inl (zI K, 24, .inl Gh))], zSX K n sc Cs a]) (st := []) (nA := 1) (zspN 13 rfl rfl rfl (by decide +kernel)) (zspN 13 rfl rfl rfl (by decide +kernel)) 0 0 rfl rfl rfl rfl gL_isFleet_X4_entries rfl (by decide +kernel) ⟨Nat.le_of_ble_eq_true rfl, Nat.le_of_ble_eq_true rfl⟩ rfl rfl (Nat.le_of_ble_eq_true rfl) ⟨Nat.le_of_ble_eq_true rfl, Nat.le_of_ble_eq_true rfl⟩ dL_isFleet_395 z_noX (fun _ => ?_)
    refine z_iload B dL_isFleet_398 9 rfl ?_
    refine z_icne B 407 dL_isFleet_400 (by decide) (fun _ => ?_) (fun h => absurd (f_ent hR hi) h)
    refine z_iconst B (v := 1) dL_isFleet_403 rfl ?_
    refine z_goto B (tgt := 408) dL_isFleet_404 (by decide) ?_
    refine z_istore B (lv' := [(7, .int 1), (0, .ref ax), (1, .ref pz), (2, .ref pn), (3, .ref pe), (4, .ref pv), (5, .ref px), (6, .ref ph), (8, .int (nI a)), (9, .int (nI (cno 3 (Cs a 0) 16)))]) dL_isFleet_408 (by decide) rfl ?_
    refine z_iinc B (v := nI (a + 1)) (lv' := [(8, .int (nI (a + 1))), (7, .int 1), (0, .ref ax), (1, .ref pz), (2, .ref pn), (3, .ref pe), (4, .ref pv), (5, .ref px), (6, .ref ph), (9, .int (nI (cno 3 (Cs a 0) 16)))]) dL_isFleet_410 8 rfl (nI_1 a) (by decide) rfl ?_
    refine z_goto B (tgt := 171) dL_isFleet_413 (by decide) ?_
    refine z_perm (bs' := [zXo ax (az 0) sa (ak 0) tr tc X, zSa K sa f, zSO n so sc D, zSC K n sc Cs, zZo K az Z W, zCo K ak F O, [(pz, .inl (zI K, 32, .inl Gz))], [(pn, .inl (zI K, 20, .inl Gn))], [(pe, .inl (zI K, 24, .inl Ge))], [(pv, .inl (zI K, 24, .inl Gv))], [(px, .inl (zI K, 24, .inl Gx))], [(ph, .inl (zI K, 24, .inl Gh))]]) (zI_q rfl (zSC_split hi)) ?_
    refine z_lsub [2, 3, 4, 5, 6, 7, 8, 1, 0] rfl ?_
    exact ih (a + 1) (by omega)
set_option maxHeartbeats 4000000 in
set_option maxRecDepth 100000 in
theorem kL_isFleet_C (l : Launch) (hl : l.stackTraces = false) (K : zK) (ax : Nat) (az : Nat → Nat) (sa : Nat) (ak : Nat → Nat) (tr : Nat) (tc : Nat) (X : Nat → Int32) (f : Nat → Option Nat) (n : Nat) (so : Nat → Nat) (sc : Nat → Nat → Nat) (D : Nat → Nat → Int32) (Cs : Nat → Nat → Nat → Int32) (Z : Nat → Nat → Int32) (W : Nat → Int32) (F : Nat → Int32) (O : Nat → Int32) (pz : Nat) (pn : Nat) (pe : Nat) (pv : Nat) (px : Nat) (ph : Nat) (Gz : Nat → Int32) (Gn : Nat → Int32) (Ge : Nat → Int32) (Gv : Nat → Int32) (Gl : Nat → Int32) (Gx : Nat → Int32) (Gh : Nat → Int32) (T : Nat) (hf1 : ∀ a, a < n → f a = some (so a)) (hR : rA T n X Z W D Cs O Gz Gn Ge Gv Gl Gx Gh) {p : Program} {e : Env} {s : State} {m : MethodId} {args : Array Value} {below : List Frame} {meth : Method} {c : Code} {A : Nat → Prop} (B : zF K p l s m args meth c A cL_isFleet 12 RL "isFleet" wsL_isFleet (some .boolean) []) {Q : State → Prop} (kk : zW K p l e { frames := 3, cells := 0, slots := 0, locals := 68 } s m args below meth c A Q 0 0 [zXo ax (az 0) sa (ak 0) tr tc X, zSa K sa f, zSO n so sc D, zSC K n sc Cs, zZo K az Z W, zCo K ak F O, [(pz, .inl (zI K, 32, .inl Gz))], [(pn, .inl (zI K, 20, .inl Gn))], [(pe, .inl (zI K, 24, .inl Ge))], [(pv, .inl (zI K, 24, .inl Gv))], [(px, .inl (zI K, 24, .inl Gx))], [(ph, .inl (zI K, 24, .inl Gh))]] [(0, .ref ax), (1, .ref pz), (2, .ref pn), (3, .ref pe), (4, .ref pv), (5, .ref px), (6, .ref ph), (7, .int 1)] [] 168) : ∀ (m9 a : Nat), a + m9 = 16 → zW K p l e { frames := 3, cells := 0, slots := 0, locals := 68 } s m args below meth c A Q 0 0 [zXo ax (az 0) sa (ak 0) tr tc X, zSa K sa f, zSO n so sc D, zSC K n sc Cs, zZo K az Z W, zCo K ak F O, [(pz, .inl (zI K, 32, .inl Gz))], [(pn, .inl (zI K, 20, .inl Gn))], [(pe, .inl (zI K, 24, .inl Ge))], [(pv, .inl (zI K, 24, .inl Gv))], [(px, .inl (zI K, 24, .inl Gx))], [(ph, .inl (zI K, 24, .inl Gh))]] [(0, .ref ax), (1, .ref pz), (2, .ref pn), (3, .ref pe), (4, .ref pv), (5, .ref px), (6, .ref ph), (7, .int 1), (8, .int (nI a))] [] 128 := by
  intro m9
  induction m9 with
  | zero =>
    intro a ha
    refine z_iload B dL_isFleet_128 8 rfl ?_
    refine z_bipush B (v := 16) dL_isFleet_130 rfl ?_
    refine z_icge B 168 dL_isFleet_132 (by decide) (fun _ => ?_) (fun h => absurd (z_lge0 ha (by decide)) h)
    refine z_lsub [0, 1, 2, 3, 4, 5, 6, 7] rfl ?_
    exact kk
  | succ m9 ih =>
    intro a ha
    refine z_iload B dL_isFleet_128 8 rfl ?_
    refine z_bipush B (v := 16) dL_isFleet_130 rfl ?_
    refine z_icge B 168 dL_isFleet_132 (by decide) (fun h => absurd h (z_lgeS ha (by decide))) (fun _ => ?_)
    refine z_iload B dL_isFleet_135 7 rfl ?_
    refine z_ifeq B 168 dL_isFleet_137 (by decide) (fun h => absurd h (by decide)) (fun _ => ?_)
    refine z_aload_n B dL_isFleet_140 0 rfl ?_
    refine z_iload B dL_isFleet_141 8 rfl ?_
    refine z_V1 B (kX4_truth_o l hl K ax az sa (ak 0) tr tc X Z W (nI a) (r_n0 (by omega)) (r_n16 (by omega))) [0, 4] [1, 2, 3, 5, 6, 7, 8, 9, 10, 11] (br := [zSa K sa f, zSO n so sc D, zSC K n sc Cs, zCo K ak F O, [(pz, .inl (zI K, 32, .inl Gz))], [(pn, .inl (zI K, 20, .inl Gn))], [(pe, .inl (zI K, 24, .inl Ge))], [(pv, .inl (zI K, 24, .inl Gv))], [(px, .inl (zI K, 24, .inl Gx))], [(ph, .inl (zI K, 24, .inl Gh))]]) (bs' := [zXo ax (az 0) sa (ak 0) tr tc X, zSa K sa f, zSO n so sc D, zSC K n sc Cs, zZo K az Z W, zCo K ak F O, [(pz, .inl (zI K, 32, .inl Gz))], [(pn, .inl (zI K, 20, .inl Gn))], [(pe, .inl (zI K, 24, .inl Ge))], [(pv, .inl (zI K, 24, .inl Gv))], [(px, .inl (zI K, 24, .inl Gx))], [(ph, .inl (zI K, 24, .inl Gh))]]) (st := []) (nA := 1) (zspN 12 rfl rfl rfl (by decide +kernel)) (zspN 12 rfl rfl rfl (by decide +kernel)) 0 0 rfl rfl rfl rfl gL_isFleet_X4_truth rfl (by decide +kernel) ⟨Nat.le_of_ble_eq_true rfl, Nat.le_of_ble_eq_true rfl⟩ rfl rfl (Nat.le_of_ble_eq_true rfl) ⟨Nat.le_of_ble_eq_true rfl, Nat.le_of_ble_eq_true rfl⟩ dL_isFleet_143 z_noX (fun _ => ?_)
    refine z_aload_n B dL_isFleet_146 1 rfl ?_
    refine z_iload B dL_isFleet_147 8 rfl ?_
    refine z_S1 B (kL_truth l hl K pz Gz (nI a) (r_vin (by omega)) hR.2.1.wz) [6] [0, 1, 2, 3, 4, 5, 7, 8, 9, 10, 11] (br := [zXo ax (az 0) sa (ak 0) tr tc X, zSa K sa f, zSO n so sc D, zSC K n sc Cs, zZo K az Z W, zCo K ak F O, [(pn, .inl (zI K, 20, .inl Gn))], [(pe, .inl (zI K, 24, .inl Ge))], [(pv, .inl (zI K, 24, .inl Gv))], [(px, .inl (zI K, 24, .inl Gx))], [(ph, .inl (zI K, 24, .inl Gh))]]) (bs' := [zXo ax (az 0) sa (ak 0) tr tc X, zSa K sa f, zSO n so sc D, zSC K n sc Cs, zZo K az Z W, zCo K ak F O, [(pz, .inl (zI K, 32, .inl Gz))], [(pn, .inl (zI K, 20, .inl Gn))], [(pe, .inl (zI K, 24, .inl Ge))], [(pv, .inl (zI K, 24, .inl Gv))], [(px, .inl (zI K, 24, .inl Gx))], [(ph, .inl (zI K, 24, .inl Gh))]]) (st := [.int (fX4_truth_o X Z W (nI a))]) (nA := 2) (zspN 12 rfl rfl rfl (by decide +kernel)) (zspN 12 rfl rfl rfl (by decide +kernel)) gL_isFleet_L_truth rfl (by decide +kernel) ⟨Nat.le_of_ble_eq_true rfl, Nat.le_of_ble_eq_true rfl⟩ rfl rfl (Nat.le_of_ble_eq_true rfl) ⟨Nat.le_of_ble_eq_true rfl, Nat.le_of_ble_eq_true rfl⟩ dL_isFleet_149 z_noX (fun _ => ?_)
    refine z_icne B 159 dL_isFleet_152 (by decide) (fun _ => ?_) (fun h => absurd (q_truth hR.2.1 (by omega)) h)
    refine z_iconst B (v := 1) dL_isFleet_155 rfl ?_
    refine z_goto B (tgt := 160) dL_isFleet_156 (by decide) ?_
    refine z_istore B (lv' := [(7, .int 1), (0, .ref ax), (1, .ref pz), (2, .ref pn), (3, .ref pe), (4, .ref pv), (5, .ref px), (6, .ref ph), (8, .int (nI a))]) dL_isFleet_160 (by decide) rfl ?_
    refine z_iinc B (v := nI (a + 1)) (lv' := [(8, .int (nI (a + 1))), (7, .int 1), (0, .ref ax), (1, .ref pz), (2, .ref pn), (3, .ref pe), (4, .ref pv), (5, .ref px), (6, .ref ph)]) dL_isFleet_162 8 rfl (nI_1 a) (by decide) rfl ?_
    refine z_goto B (tgt := 128) dL_isFleet_165 (by decide) ?_
    refine z_lsub [2, 3, 4, 5, 6, 7, 8, 1, 0] rfl ?_
    exact ih (a + 1) (by omega)
set_option maxHeartbeats 4000000 in
set_option maxRecDepth 100000 in
theorem kL_isFleet_D (l : Launch) (hl : l.stackTraces = false) (K : zK) (ax : Nat) (az : Nat → Nat) (sa : Nat) (ak : Nat → Nat) (tr : Nat) (tc : Nat) (X : Nat → Int32) (f : Nat → Option Nat) (n : Nat) (so : Nat → Nat) (sc : Nat → Nat → Nat) (D : Nat → Nat → Int32) (Cs : Nat → Nat → Nat → Int32) (Z : Nat → Nat → Int32) (W : Nat → Int32) (F : Nat → Int32) (O : Nat → Int32) (pz : Nat) (pn : Nat) (pe : Nat) (pv : Nat) (px : Nat) (ph : Nat) (Gz : Nat → Int32) (Gn : Nat → Int32) (Ge : Nat → Int32) (Gv : Nat → Int32) (Gl : Nat → Int32) (Gx : Nat → Int32) (Gh : Nat → Int32) (T : Nat) (hf1 : ∀ a, a < n → f a = some (so a)) (hR : rA T n X Z W D Cs O Gz Gn Ge Gv Gl Gx Gh) {p : Program} {e : Env} {s : State} {m : MethodId} {args : Array Value} {below : List Frame} {meth : Method} {c : Code} {A : Nat → Prop} (B : zF K p l s m args meth c A cL_isFleet 12 RL "isFleet" wsL_isFleet (some .boolean) []) : zW K p l e { frames := 3, cells := 0, slots := 0, locals := 68 } s m args below meth c A (vx_MQ below (zQ K A (fun _ : Unit => (some (.int 1), [zXo ax (az 0) sa (ak 0) tr tc X, zSa K sa f, zSO n so sc D, zSC K n sc Cs, zZo K az Z W, zCo K ak F O, [(pz, .inl (zI K, 32, .inl Gz))], [(pn, .inl (zI K, 20, .inl Gn))], [(pe, .inl (zI K, 24, .inl Ge))], [(pv, .inl (zI K, 24, .inl Gv))], [(px, .inl (zI K, 24, .inl Gx))], [(ph, .inl (zI K, 24, .inl Gh))]])) (fun _ => True)) (zX K A [zXo ax (az 0) sa (ak 0) tr tc X, zSa K sa f, zSO n so sc D, zSC K n sc Cs, zZo K az Z W, zCo K ak F O, [(pz, .inl (zI K, 32, .inl Gz))], [(pn, .inl (zI K, 20, .inl Gn))], [(pe, .inl (zI K, 24, .inl Ge))], [(pv, .inl (zI K, 24, .inl Gv))], [(px, .inl (zI K, 24, .inl Gx))], [(ph, .inl (zI K, 24, .inl Gh))]] zNo) args s 0 0 A) 0 0 [zXo ax (az 0) sa (ak 0) tr tc X, zSa K sa f, zSO n so sc D, zSC K n sc Cs, zZo K az Z W, zCo K ak F O, [(pz, .inl (zI K, 32, .inl Gz))], [(pn, .inl (zI K, 20, .inl Gn))], [(pe, .inl (zI K, 24, .inl Ge))], [(pv, .inl (zI K, 24, .inl Gv))], [(px, .inl (zI K, 24, .inl Gx))], [(ph, .inl (zI K, 24, .inl Gh))]] [(0, .ref ax), (1, .ref pz), (2, .ref pn), (3, .ref pe), (4, .ref pv), (5, .ref px), (6, .ref ph), (7, .int 1)] [] 168 := by
  refine z_iconst B (v := 0) dL_isFleet_168 rfl ?_
  refine z_istore B (lv' := [(8, .int 0), (0, .ref ax), (1, .ref pz), (2, .ref pn), (3, .ref pe), (4, .ref pv), (5, .ref px), (6, .ref ph), (7, .int 1)]) dL_isFleet_169 (by decide) rfl ?_
  refine z_lsub [1, 2, 3, 4, 5, 6, 7, 8, 0] rfl ?_
  exact kL_isFleet_B l hl K ax az sa ak tr tc X f n so sc D Cs Z W F O pz pn pe pv px ph Gz Gn Ge Gv Gl Gx Gh T hf1 hR B n 0 (by omega)
set_option maxHeartbeats 4000000 in
set_option maxRecDepth 100000 in
theorem kL_isFleet (l : Launch) (hl : l.stackTraces = false) (K : zK) (ax : Nat) (az : Nat → Nat) (sa : Nat) (ak : Nat → Nat) (tr : Nat) (tc : Nat) (X : Nat → Int32) (f : Nat → Option Nat) (n : Nat) (so : Nat → Nat) (sc : Nat → Nat → Nat) (D : Nat → Nat → Int32) (Cs : Nat → Nat → Nat → Int32) (Z : Nat → Nat → Int32) (W : Nat → Int32) (F : Nat → Int32) (O : Nat → Int32) (pz : Nat) (pn : Nat) (pe : Nat) (pv : Nat) (px : Nat) (ph : Nat) (Gz : Nat → Int32) (Gn : Nat → Int32) (Ge : Nat → Int32) (Gv : Nat → Int32) (Gl : Nat → Int32) (Gx : Nat → Int32) (Gh : Nat → Int32) (T : Nat) (hf1 : ∀ a, a < n → f a = some (so a)) (hR : rA T n X Z W D Cs O Gz Gn Ge Gv Gl Gx Gh) : zMet l K yL_isFleet wsL_isFleet { frames := 3, cells := 0, slots := 0, locals := 68 } [.ref ax, .ref pz, .ref pn, .ref pe, .ref pv, .ref px, .ref ph] [zXo ax (az 0) sa (ak 0) tr tc X, zSa K sa f, zSO n so sc D, zSC K n sc Cs, zZo K az Z W, zCo K ak F O, [(pz, .inl (zI K, 32, .inl Gz))], [(pn, .inl (zI K, 20, .inl Gn))], [(pe, .inl (zI K, 24, .inl Ge))], [(pv, .inl (zI K, 24, .inl Gv))], [(px, .inl (zI K, 24, .inl Gx))], [(ph, .inl (zI K, 24, .inl Gh))]] (some (.int 1)) [zXo ax (az 0) sa (ak 0) tr tc X, zSa K sa f, zSO n so sc D, zSC K n sc Cs, zZo K az Z W, zCo K ak F O, [(pz, .inl (zI K, 32, .inl Gz))], [(pn, .inl (zI K, 20, .inl Gn))], [(pe, .inl (zI K, 24, .inl Ge))], [(pv, .inl (zI K, 24, .inl Gv))], [(px, .inl (zI K, 24, .inl Gx))], [(ph, .inl (zI K, 24, .inl Gh))]] True zNo := by
  refine zMeN.of (cc := cL_isFleet) (maxL := 12) (ret := (some .boolean)) (own := RL) (nm := "isFleet") hl (by decide +kernel) rfl rfl rfl (Nat.le_of_ble_eq_true rfl) (lv := [(0, .ref ax), (1, .ref pz), (2, .ref pn), (3, .ref pe), (4, .ref pv), (5, .ref px), (6, .ref ph)]) rfl ?_
  intro p e s m args below meth c A B
  refine z_aload_n B dL_isFleet_0 0 rfl ?_
  refine z_V1 B (kX4_time l hl K ax (az 0) sa (ak 0) tr tc X) [0] [1, 2, 3, 4, 5, 6, 7, 8, 9, 10, 11] (br := [zSa K sa f, zSO n so sc D, zSC K n sc Cs, zZo K az Z W, zCo K ak F O, [(pz, .inl (zI K, 32, .inl Gz))], [(pn, .inl (zI K, 20, .inl Gn))], [(pe, .inl (zI K, 24, .inl Ge))], [(pv, .inl (zI K, 24, .inl Gv))], [(px, .inl (zI K, 24, .inl Gx))], [(ph, .inl (zI K, 24, .inl Gh))]]) (bs' := [zXo ax (az 0) sa (ak 0) tr tc X, zSa K sa f, zSO n so sc D, zSC K n sc Cs, zZo K az Z W, zCo K ak F O, [(pz, .inl (zI K, 32, .inl Gz))], [(pn, .inl (zI K, 20, .inl Gn))], [(pe, .inl (zI K, 24, .inl Ge))], [(pv, .inl (zI K, 24, .inl Gv))], [(px, .inl (zI K, 24, .inl Gx))], [(ph, .inl (zI K, 24, .inl Gh))]]) (st := []) (nA := 0) (zspN 12 rfl rfl rfl (by decide +kernel)) (zspN 12 rfl rfl rfl (by decide +kernel)) 0 0 rfl rfl rfl rfl gL_isFleet_X4_time rfl (by decide +kernel) ⟨Nat.le_of_ble_eq_true rfl, Nat.le_of_ble_eq_true rfl⟩ rfl rfl (Nat.le_of_ble_eq_true rfl) ⟨Nat.le_of_ble_eq_true rfl, Nat.le_of_ble_eq_true rfl⟩ dL_isFleet_1 z_noX (fun _ => ?_)
  refine z_aload_n B dL_isFleet_4 2 rfl ?_
  refine z_iconst B (v := 0) dL_isFleet_5 rfl ?_
  refine z_ialdn B (N := 20) (f := Gn) (k0 := 0) (v := (Gn 0)) 7 0 rfl rfl (z_vpc (k := 0) rfl (by decide)) rfl rfl dL_isFleet_6 ?_
  refine z_icne B 122 dL_isFleet_7 (by decide) (fun _ => ?_) (fun h => absurd (f_time hR) h)
  refine z_aload_n B dL_isFleet_10 0 rfl ?_
  refine z_V1 B (kX4_queries l hl K ax (az 0) sa (ak 0) tr tc X) [0] [1, 2, 3, 4, 5, 6, 7, 8, 9, 10, 11] (br := [zSa K sa f, zSO n so sc D, zSC K n sc Cs, zZo K az Z W, zCo K ak F O, [(pz, .inl (zI K, 32, .inl Gz))], [(pn, .inl (zI K, 20, .inl Gn))], [(pe, .inl (zI K, 24, .inl Ge))], [(pv, .inl (zI K, 24, .inl Gv))], [(px, .inl (zI K, 24, .inl Gx))], [(ph, .inl (zI K, 24, .inl Gh))]]) (bs' := [zXo ax (az 0) sa (ak 0) tr tc X, zSa K sa f, zSO n so sc D, zSC K n sc Cs, zZo K az Z W, zCo K ak F O, [(pz, .inl (zI K, 32, .inl Gz))], [(pn, .inl (zI K, 20, .inl Gn))], [(pe, .inl (zI K, 24, .inl Ge))], [(pv, .inl (zI K, 24, .inl Gv))], [(px, .inl (zI K, 24, .inl Gx))], [(ph, .inl (zI K, 24, .inl Gh))]]) (st := []) (nA := 0) (zspN 12 rfl rfl rfl (by decide +kernel)) (zspN 12 rfl rfl rfl (by decide +kernel)) 0 0 rfl rfl rfl rfl gL_isFleet_X4_queries rfl (by decide +kernel) ⟨Nat.le_of_ble_eq_true rfl, Nat.le_of_ble_eq_true rfl⟩ rfl rfl (Nat.le_of_ble_eq_true rfl) ⟨Nat.le_of_ble_eq_true rfl, Nat.le_of_ble_eq_true rfl⟩ dL_isFleet_11 z_noX (fun _ => ?_)
  refine z_aload_n B dL_isFleet_14 2 rfl ?_
  refine z_bipush B (v := 10) dL_isFleet_15 rfl ?_
  refine z_ialdn B (N := 20) (f := Gn) (k0 := 10) (v := (Gn 10)) 7 0 rfl rfl (z_vpc (k := 10) rfl (by decide)) rfl rfl dL_isFleet_17 ?_
  refine z_icne B 122 dL_isFleet_18 (by decide) (fun _ => ?_) (fun h => absurd (f_queries hR) h)
  refine z_aload_n B dL_isFleet_21 0 rfl ?_
  refine z_V1 B (kX4_fetches l hl K ax (az 0) sa (ak 0) tr tc X) [0] [1, 2, 3, 4, 5, 6, 7, 8, 9, 10, 11] (br := [zSa K sa f, zSO n so sc D, zSC K n sc Cs, zZo K az Z W, zCo K ak F O, [(pz, .inl (zI K, 32, .inl Gz))], [(pn, .inl (zI K, 20, .inl Gn))], [(pe, .inl (zI K, 24, .inl Ge))], [(pv, .inl (zI K, 24, .inl Gv))], [(px, .inl (zI K, 24, .inl Gx))], [(ph, .inl (zI K, 24, .inl Gh))]]) (bs' := [zXo ax (az 0) sa (ak 0) tr tc X, zSa K sa f, zSO n so sc D, zSC K n sc Cs, zZo K az Z W, zCo K ak F O, [(pz, .inl (zI K, 32, .inl Gz))], [(pn, .inl (zI K, 20, .inl Gn))], [(pe, .inl (zI K, 24, .inl Ge))], [(pv, .inl (zI K, 24, .inl Gv))], [(px, .inl (zI K, 24, .inl Gx))], [(ph, .inl (zI K, 24, .inl Gh))]]) (st := []) (nA := 0) (zspN 12 rfl rfl rfl (by decide +kernel)) (zspN 12 rfl rfl rfl (by decide +kernel)) 0 0 rfl rfl rfl rfl gL_isFleet_X4_fetches rfl (by decide +kernel) ⟨Nat.le_of_ble_eq_true rfl, Nat.le_of_ble_eq_true rfl⟩ rfl rfl (Nat.le_of_ble_eq_true rfl) ⟨Nat.le_of_ble_eq_true rfl, Nat.le_of_ble_eq_true rfl⟩ dL_isFleet_22 z_noX (fun _ => ?_)
  refine z_aload_n B dL_isFleet_25 2 rfl ?_
  refine z_bipush B (v := 11) dL_isFleet_26 rfl ?_
  refine z_ialdn B (N := 20) (f := Gn) (k0 := 11) (v := (Gn 11)) 7 0 rfl rfl (z_vpc (k := 11) rfl (by decide)) rfl rfl dL_isFleet_28 ?_
  refine z_icne B 122 dL_isFleet_29 (by decide) (fun _ => ?_) (fun h => absurd (f_fetches hR) h)
  refine z_aload_n B dL_isFleet_32 0 rfl ?_
  refine z_V1 B (kX4_prefetches l hl K ax (az 0) sa (ak 0) tr tc X) [0] [1, 2, 3, 4, 5, 6, 7, 8, 9, 10, 11] (br := [zSa K sa f, zSO n so sc D, zSC K n sc Cs, zZo K az Z W, zCo K ak F O, [(pz, .inl (zI K, 32, .inl Gz))], [(pn, .inl (zI K, 20, .inl Gn))], [(pe, .inl (zI K, 24, .inl Ge))], [(pv, .inl (zI K, 24, .inl Gv))], [(px, .inl (zI K, 24, .inl Gx))], [(ph, .inl (zI K, 24, .inl Gh))]]) (bs' := [zXo ax (az 0) sa (ak 0) tr tc X, zSa K sa f, zSO n so sc D, zSC K n sc Cs, zZo K az Z W, zCo K ak F O, [(pz, .inl (zI K, 32, .inl Gz))], [(pn, .inl (zI K, 20, .inl Gn))], [(pe, .inl (zI K, 24, .inl Ge))], [(pv, .inl (zI K, 24, .inl Gv))], [(px, .inl (zI K, 24, .inl Gx))], [(ph, .inl (zI K, 24, .inl Gh))]]) (st := []) (nA := 0) (zspN 12 rfl rfl rfl (by decide +kernel)) (zspN 12 rfl rfl rfl (by decide +kernel)) 0 0 rfl rfl rfl rfl gL_isFleet_X4_prefetches rfl (by decide +kernel) ⟨Nat.le_of_ble_eq_true rfl, Nat.le_of_ble_eq_true rfl⟩ rfl rfl (Nat.le_of_ble_eq_true rfl) ⟨Nat.le_of_ble_eq_true rfl, Nat.le_of_ble_eq_true rfl⟩ dL_isFleet_33 z_noX (fun _ => ?_)
  refine z_aload_n B dL_isFleet_36 2 rfl ?_
  refine z_bipush B (v := 12) dL_isFleet_37 rfl ?_
  refine z_ialdn B (N := 20) (f := Gn) (k0 := 12) (v := (Gn 12)) 7 0 rfl rfl (z_vpc (k := 12) rfl (by decide)) rfl rfl dL_isFleet_39 ?_
  refine z_icne B 122 dL_isFleet_40 (by decide) (fun _ => ?_) (fun h => absurd (f_prefetches hR) h)
  refine z_aload_n B dL_isFleet_43 0 rfl ?_
  refine z_V1 B (kX4_staleAnswers l hl K ax (az 0) sa (ak 0) tr tc X) [0] [1, 2, 3, 4, 5, 6, 7, 8, 9, 10, 11] (br := [zSa K sa f, zSO n so sc D, zSC K n sc Cs, zZo K az Z W, zCo K ak F O, [(pz, .inl (zI K, 32, .inl Gz))], [(pn, .inl (zI K, 20, .inl Gn))], [(pe, .inl (zI K, 24, .inl Ge))], [(pv, .inl (zI K, 24, .inl Gv))], [(px, .inl (zI K, 24, .inl Gx))], [(ph, .inl (zI K, 24, .inl Gh))]]) (bs' := [zXo ax (az 0) sa (ak 0) tr tc X, zSa K sa f, zSO n so sc D, zSC K n sc Cs, zZo K az Z W, zCo K ak F O, [(pz, .inl (zI K, 32, .inl Gz))], [(pn, .inl (zI K, 20, .inl Gn))], [(pe, .inl (zI K, 24, .inl Ge))], [(pv, .inl (zI K, 24, .inl Gv))], [(px, .inl (zI K, 24, .inl Gx))], [(ph, .inl (zI K, 24, .inl Gh))]]) (st := []) (nA := 0) (zspN 12 rfl rfl rfl (by decide +kernel)) (zspN 12 rfl rfl rfl (by decide +kernel)) 0 0 rfl rfl rfl rfl gL_isFleet_X4_staleAnswers rfl (by decide +kernel) ⟨Nat.le_of_ble_eq_true rfl, Nat.le_of_ble_eq_true rfl⟩ rfl rfl (Nat.le_of_ble_eq_true rfl) ⟨Nat.le_of_ble_eq_true rfl, Nat.le_of_ble_eq_true rfl⟩ dL_isFleet_44 z_noX (fun _ => ?_)
  refine z_aload_n B dL_isFleet_47 2 rfl ?_
  refine z_bipush B (v := 13) dL_isFleet_48 rfl ?_
  refine z_ialdn B (N := 20) (f := Gn) (k0 := 13) (v := (Gn 13)) 7 0 rfl rfl (z_vpc (k := 13) rfl (by decide)) rfl rfl dL_isFleet_50 ?_
  refine z_icne B 122 dL_isFleet_51 (by decide) (fun _ => ?_) (fun h => absurd (f_staleAnswers hR) h)
  refine z_aload_n B dL_isFleet_54 0 rfl ?_
  refine z_V1 B (kX4_failures l hl K ax (az 0) sa (ak 0) tr tc X) [0] [1, 2, 3, 4, 5, 6, 7, 8, 9, 10, 11] (br := [zSa K sa f, zSO n so sc D, zSC K n sc Cs, zZo K az Z W, zCo K ak F O, [(pz, .inl (zI K, 32, .inl Gz))], [(pn, .inl (zI K, 20, .inl Gn))], [(pe, .inl (zI K, 24, .inl Ge))], [(pv, .inl (zI K, 24, .inl Gv))], [(px, .inl (zI K, 24, .inl Gx))], [(ph, .inl (zI K, 24, .inl Gh))]]) (bs' := [zXo ax (az 0) sa (ak 0) tr tc X, zSa K sa f, zSO n so sc D, zSC K n sc Cs, zZo K az Z W, zCo K ak F O, [(pz, .inl (zI K, 32, .inl Gz))], [(pn, .inl (zI K, 20, .inl Gn))], [(pe, .inl (zI K, 24, .inl Ge))], [(pv, .inl (zI K, 24, .inl Gv))], [(px, .inl (zI K, 24, .inl Gx))], [(ph, .inl (zI K, 24, .inl Gh))]]) (st := []) (nA := 0) (zspN 12 rfl rfl rfl (by decide +kernel)) (zspN 12 rfl rfl rfl (by decide +kernel)) 0 0 rfl rfl rfl rfl gL_isFleet_X4_failures rfl (by decide +kernel) ⟨Nat.le_of_ble_eq_true rfl, Nat.le_of_ble_eq_true rfl⟩ rfl rfl (Nat.le_of_ble_eq_true rfl) ⟨Nat.le_of_ble_eq_true rfl, Nat.le_of_ble_eq_true rfl⟩ dL_isFleet_55 z_noX (fun _ => ?_)
  refine z_aload_n B dL_isFleet_58 2 rfl ?_
  refine z_bipush B (v := 14) dL_isFleet_59 rfl ?_
  refine z_ialdn B (N := 20) (f := Gn) (k0 := 14) (v := (Gn 14)) 7 0 rfl rfl (z_vpc (k := 14) rfl (by decide)) rfl rfl dL_isFleet_61 ?_
  refine z_icne B 122 dL_isFleet_62 (by decide) (fun _ => ?_) (fun h => absurd (f_failures hR) h)
  refine z_aload_n B dL_isFleet_65 0 rfl ?_
  refine z_V1 B (kX4_lastSite l hl K ax (az 0) sa (ak 0) tr tc X) [0] [1, 2, 3, 4, 5, 6, 7, 8, 9, 10, 11] (br := [zSa K sa f, zSO n so sc D, zSC K n sc Cs, zZo K az Z W, zCo K ak F O, [(pz, .inl (zI K, 32, .inl Gz))], [(pn, .inl (zI K, 20, .inl Gn))], [(pe, .inl (zI K, 24, .inl Ge))], [(pv, .inl (zI K, 24, .inl Gv))], [(px, .inl (zI K, 24, .inl Gx))], [(ph, .inl (zI K, 24, .inl Gh))]]) (bs' := [zXo ax (az 0) sa (ak 0) tr tc X, zSa K sa f, zSO n so sc D, zSC K n sc Cs, zZo K az Z W, zCo K ak F O, [(pz, .inl (zI K, 32, .inl Gz))], [(pn, .inl (zI K, 20, .inl Gn))], [(pe, .inl (zI K, 24, .inl Ge))], [(pv, .inl (zI K, 24, .inl Gv))], [(px, .inl (zI K, 24, .inl Gx))], [(ph, .inl (zI K, 24, .inl Gh))]]) (st := []) (nA := 0) (zspN 12 rfl rfl rfl (by decide +kernel)) (zspN 12 rfl rfl rfl (by decide +kernel)) 0 0 rfl rfl rfl rfl gL_isFleet_X4_lastSite rfl (by decide +kernel) ⟨Nat.le_of_ble_eq_true rfl, Nat.le_of_ble_eq_true rfl⟩ rfl rfl (Nat.le_of_ble_eq_true rfl) ⟨Nat.le_of_ble_eq_true rfl, Nat.le_of_ble_eq_true rfl⟩ dL_isFleet_66 z_noX (fun _ => ?_)
  refine z_aload_n B dL_isFleet_69 2 rfl ?_
  refine z_bipush B (v := 15) dL_isFleet_70 rfl ?_
  refine z_ialdn B (N := 20) (f := Gn) (k0 := 15) (v := (Gn 15)) 7 0 rfl rfl (z_vpc (k := 15) rfl (by decide)) rfl rfl dL_isFleet_72 ?_
  refine z_icne B 122 dL_isFleet_73 (by decide) (fun _ => ?_) (fun h => absurd (f_lastSite hR) h)
  refine z_aload_n B dL_isFleet_76 0 rfl ?_
  refine z_V1 B (kX4_lastWasStale l hl K ax (az 0) sa ak tr tc X F O (f_O5 hR)) [0, 5] [1, 2, 3, 4, 6, 7, 8, 9, 10, 11] (br := [zSa K sa f, zSO n so sc D, zSC K n sc Cs, zZo K az Z W, [(pz, .inl (zI K, 32, .inl Gz))], [(pn, .inl (zI K, 20, .inl Gn))], [(pe, .inl (zI K, 24, .inl Ge))], [(pv, .inl (zI K, 24, .inl Gv))], [(px, .inl (zI K, 24, .inl Gx))], [(ph, .inl (zI K, 24, .inl Gh))]]) (bs' := [zXo ax (az 0) sa (ak 0) tr tc X, zSa K sa f, zSO n so sc D, zSC K n sc Cs, zZo K az Z W, zCo K ak F O, [(pz, .inl (zI K, 32, .inl Gz))], [(pn, .inl (zI K, 20, .inl Gn))], [(pe, .inl (zI K, 24, .inl Ge))], [(pv, .inl (zI K, 24, .inl Gv))], [(px, .inl (zI K, 24, .inl Gx))], [(ph, .inl (zI K, 24, .inl Gh))]]) (st := []) (nA := 0) (zspN 12 rfl rfl rfl (by decide +kernel)) (zspN 12 rfl rfl rfl (by decide +kernel)) 0 0 rfl rfl rfl rfl gL_isFleet_X4_lastWasStale rfl (by decide +kernel) ⟨Nat.le_of_ble_eq_true rfl, Nat.le_of_ble_eq_true rfl⟩ rfl rfl (Nat.le_of_ble_eq_true rfl) ⟨Nat.le_of_ble_eq_true rfl, Nat.le_of_ble_eq_true rfl⟩ dL_isFleet_77 z_noX (fun _ => ?_)
  refine z_aload_n B dL_isFleet_80 2 rfl ?_
  refine z_bipush B (v := 16) dL_isFleet_81 rfl ?_
  refine z_ialdn B (N := 20) (f := Gn) (k0 := 16) (v := (Gn 16)) 7 0 rfl rfl (z_vpc (k := 16) rfl (by decide)) rfl rfl dL_isFleet_83 ?_
  refine z_iconst B (v := 1) dL_isFleet_84 rfl ?_
  refine z_icne B 92 dL_isFleet_85 (by decide) (fun c4 => ?_) (fun c4 => ?_)
  · refine z_iconst B (v := 1) dL_isFleet_88 rfl ?_
    refine z_goto B (tgt := 93) dL_isFleet_89 (by decide) ?_
    refine z_icne B 122 dL_isFleet_93 (by decide) (fun _ => ?_) (fun h => absurd (f_stale1 hR c4) h)
    refine z_aload_n B dL_isFleet_96 0 rfl ?_
    refine z_V1 B (kX4_lastLookUps l hl K ax (az 0) sa ak tr tc X F O) [0, 5] [1, 2, 3, 4, 6, 7, 8, 9, 10, 11] (br := [zSa K sa f, zSO n so sc D, zSC K n sc Cs, zZo K az Z W, [(pz, .inl (zI K, 32, .inl Gz))], [(pn, .inl (zI K, 20, .inl Gn))], [(pe, .inl (zI K, 24, .inl Ge))], [(pv, .inl (zI K, 24, .inl Gv))], [(px, .inl (zI K, 24, .inl Gx))], [(ph, .inl (zI K, 24, .inl Gh))]]) (bs' := [zXo ax (az 0) sa (ak 0) tr tc X, zSa K sa f, zSO n so sc D, zSC K n sc Cs, zZo K az Z W, zCo K ak F O, [(pz, .inl (zI K, 32, .inl Gz))], [(pn, .inl (zI K, 20, .inl Gn))], [(pe, .inl (zI K, 24, .inl Ge))], [(pv, .inl (zI K, 24, .inl Gv))], [(px, .inl (zI K, 24, .inl Gx))], [(ph, .inl (zI K, 24, .inl Gh))]]) (st := []) (nA := 0) (zspN 12 rfl rfl rfl (by decide +kernel)) (zspN 12 rfl rfl rfl (by decide +kernel)) 0 0 rfl rfl rfl rfl gL_isFleet_X4_lastLookUps rfl (by decide +kernel) ⟨Nat.le_of_ble_eq_true rfl, Nat.le_of_ble_eq_true rfl⟩ rfl rfl (Nat.le_of_ble_eq_true rfl) ⟨Nat.le_of_ble_eq_true rfl, Nat.le_of_ble_eq_true rfl⟩ dL_isFleet_97 z_noX (fun _ => ?_)
    refine z_aload_n B dL_isFleet_100 2 rfl ?_
    refine z_bipush B (v := 17) dL_isFleet_101 rfl ?_
    refine z_ialdn B (N := 20) (f := Gn) (k0 := 17) (v := (Gn 17)) 7 0 rfl rfl (z_vpc (k := 17) rfl (by decide)) rfl rfl dL_isFleet_103 ?_
    refine z_icne B 122 dL_isFleet_104 (by decide) (fun _ => ?_) (fun h => absurd (f_lastLookUps hR) h)
    refine z_aload_n B dL_isFleet_107 0 rfl ?_
    refine z_V1 B (kX4_lastFetches l hl K ax (az 0) sa ak tr tc X F O) [0, 5] [1, 2, 3, 4, 6, 7, 8, 9, 10, 11] (br := [zSa K sa f, zSO n so sc D, zSC K n sc Cs, zZo K az Z W, [(pz, .inl (zI K, 32, .inl Gz))], [(pn, .inl (zI K, 20, .inl Gn))], [(pe, .inl (zI K, 24, .inl Ge))], [(pv, .inl (zI K, 24, .inl Gv))], [(px, .inl (zI K, 24, .inl Gx))], [(ph, .inl (zI K, 24, .inl Gh))]]) (bs' := [zXo ax (az 0) sa (ak 0) tr tc X, zSa K sa f, zSO n so sc D, zSC K n sc Cs, zZo K az Z W, zCo K ak F O, [(pz, .inl (zI K, 32, .inl Gz))], [(pn, .inl (zI K, 20, .inl Gn))], [(pe, .inl (zI K, 24, .inl Ge))], [(pv, .inl (zI K, 24, .inl Gv))], [(px, .inl (zI K, 24, .inl Gx))], [(ph, .inl (zI K, 24, .inl Gh))]]) (st := []) (nA := 0) (zspN 12 rfl rfl rfl (by decide +kernel)) (zspN 12 rfl rfl rfl (by decide +kernel)) 0 0 rfl rfl rfl rfl gL_isFleet_X4_lastFetches rfl (by decide +kernel) ⟨Nat.le_of_ble_eq_true rfl, Nat.le_of_ble_eq_true rfl⟩ rfl rfl (Nat.le_of_ble_eq_true rfl) ⟨Nat.le_of_ble_eq_true rfl, Nat.le_of_ble_eq_true rfl⟩ dL_isFleet_108 z_noX (fun _ => ?_)
    refine z_aload_n B dL_isFleet_111 2 rfl ?_
    refine z_bipush B (v := 18) dL_isFleet_112 rfl ?_
    refine z_ialdn B (N := 20) (f := Gn) (k0 := 18) (v := (Gn 18)) 7 0 rfl rfl (z_vpc (k := 18) rfl (by decide)) rfl rfl dL_isFleet_114 ?_
    refine z_icne B 122 dL_isFleet_115 (by decide) (fun _ => ?_) (fun h => absurd (f_lastFetches hR) h)
    refine z_iconst B (v := 1) dL_isFleet_118 rfl ?_
    refine z_goto B (tgt := 123) dL_isFleet_119 (by decide) ?_
    refine z_istore B (lv' := [(7, .int 1), (0, .ref ax), (1, .ref pz), (2, .ref pn), (3, .ref pe), (4, .ref pv), (5, .ref px), (6, .ref ph)]) dL_isFleet_123 (by decide) rfl ?_
    refine z_iconst B (v := 0) dL_isFleet_125 rfl ?_
    refine z_istore B (lv' := [(8, .int 0), (7, .int 1), (0, .ref ax), (1, .ref pz), (2, .ref pn), (3, .ref pe), (4, .ref pv), (5, .ref px), (6, .ref ph)]) dL_isFleet_126 (by decide) rfl ?_
    refine z_lsub [2, 3, 4, 5, 6, 7, 8, 1, 0] rfl ?_
    refine kL_isFleet_C l hl K ax az sa ak tr tc X f n so sc D Cs Z W F O pz pn pe pv px ph Gz Gn Ge Gv Gl Gx Gh T hf1 hR B (Q := _) ?_ 16 0 rfl
    exact kL_isFleet_D l hl K ax az sa ak tr tc X f n so sc D Cs Z W F O pz pn pe pv px ph Gz Gn Ge Gv Gl Gx Gh T hf1 hR B
  · refine z_iconst B (v := 0) dL_isFleet_92 rfl ?_
    refine z_icne B 122 dL_isFleet_93 (by decide) (fun _ => ?_) (fun h => absurd (f_stale0 hR c4) h)
    refine z_aload_n B dL_isFleet_96 0 rfl ?_
    refine z_V1 B (kX4_lastLookUps l hl K ax (az 0) sa ak tr tc X F O) [0, 5] [1, 2, 3, 4, 6, 7, 8, 9, 10, 11] (br := [zSa K sa f, zSO n so sc D, zSC K n sc Cs, zZo K az Z W, [(pz, .inl (zI K, 32, .inl Gz))], [(pn, .inl (zI K, 20, .inl Gn))], [(pe, .inl (zI K, 24, .inl Ge))], [(pv, .inl (zI K, 24, .inl Gv))], [(px, .inl (zI K, 24, .inl Gx))], [(ph, .inl (zI K, 24, .inl Gh))]]) (bs' := [zXo ax (az 0) sa (ak 0) tr tc X, zSa K sa f, zSO n so sc D, zSC K n sc Cs, zZo K az Z W, zCo K ak F O, [(pz, .inl (zI K, 32, .inl Gz))], [(pn, .inl (zI K, 20, .inl Gn))], [(pe, .inl (zI K, 24, .inl Ge))], [(pv, .inl (zI K, 24, .inl Gv))], [(px, .inl (zI K, 24, .inl Gx))], [(ph, .inl (zI K, 24, .inl Gh))]]) (st := []) (nA := 0) (zspN 12 rfl rfl rfl (by decide +kernel)) (zspN 12 rfl rfl rfl (by decide +kernel)) 0 0 rfl rfl rfl rfl gL_isFleet_X4_lastLookUps rfl (by decide +kernel) ⟨Nat.le_of_ble_eq_true rfl, Nat.le_of_ble_eq_true rfl⟩ rfl rfl (Nat.le_of_ble_eq_true rfl) ⟨Nat.le_of_ble_eq_true rfl, Nat.le_of_ble_eq_true rfl⟩ dL_isFleet_97 z_noX (fun _ => ?_)
    refine z_aload_n B dL_isFleet_100 2 rfl ?_
    refine z_bipush B (v := 17) dL_isFleet_101 rfl ?_
    refine z_ialdn B (N := 20) (f := Gn) (k0 := 17) (v := (Gn 17)) 7 0 rfl rfl (z_vpc (k := 17) rfl (by decide)) rfl rfl dL_isFleet_103 ?_
    refine z_icne B 122 dL_isFleet_104 (by decide) (fun _ => ?_) (fun h => absurd (f_lastLookUps hR) h)
    refine z_aload_n B dL_isFleet_107 0 rfl ?_
    refine z_V1 B (kX4_lastFetches l hl K ax (az 0) sa ak tr tc X F O) [0, 5] [1, 2, 3, 4, 6, 7, 8, 9, 10, 11] (br := [zSa K sa f, zSO n so sc D, zSC K n sc Cs, zZo K az Z W, [(pz, .inl (zI K, 32, .inl Gz))], [(pn, .inl (zI K, 20, .inl Gn))], [(pe, .inl (zI K, 24, .inl Ge))], [(pv, .inl (zI K, 24, .inl Gv))], [(px, .inl (zI K, 24, .inl Gx))], [(ph, .inl (zI K, 24, .inl Gh))]]) (bs' := [zXo ax (az 0) sa (ak 0) tr tc X, zSa K sa f, zSO n so sc D, zSC K n sc Cs, zZo K az Z W, zCo K ak F O, [(pz, .inl (zI K, 32, .inl Gz))], [(pn, .inl (zI K, 20, .inl Gn))], [(pe, .inl (zI K, 24, .inl Ge))], [(pv, .inl (zI K, 24, .inl Gv))], [(px, .inl (zI K, 24, .inl Gx))], [(ph, .inl (zI K, 24, .inl Gh))]]) (st := []) (nA := 0) (zspN 12 rfl rfl rfl (by decide +kernel)) (zspN 12 rfl rfl rfl (by decide +kernel)) 0 0 rfl rfl rfl rfl gL_isFleet_X4_lastFetches rfl (by decide +kernel) ⟨Nat.le_of_ble_eq_true rfl, Nat.le_of_ble_eq_true rfl⟩ rfl rfl (Nat.le_of_ble_eq_true rfl) ⟨Nat.le_of_ble_eq_true rfl, Nat.le_of_ble_eq_true rfl⟩ dL_isFleet_108 z_noX (fun _ => ?_)
    refine z_aload_n B dL_isFleet_111 2 rfl ?_
    refine z_bipush B (v := 18) dL_isFleet_112 rfl ?_
    refine z_ialdn B (N := 20) (f := Gn) (k0 := 18) (v := (Gn 18)) 7 0 rfl rfl (z_vpc (k := 18) rfl (by decide)) rfl rfl dL_isFleet_114 ?_
    refine z_icne B 122 dL_isFleet_115 (by decide) (fun _ => ?_) (fun h => absurd (f_lastFetches hR) h)
    refine z_iconst B (v := 1) dL_isFleet_118 rfl ?_
    refine z_goto B (tgt := 123) dL_isFleet_119 (by decide) ?_
    refine z_istore B (lv' := [(7, .int 1), (0, .ref ax), (1, .ref pz), (2, .ref pn), (3, .ref pe), (4, .ref pv), (5, .ref px), (6, .ref ph)]) dL_isFleet_123 (by decide) rfl ?_
    refine z_iconst B (v := 0) dL_isFleet_125 rfl ?_
    refine z_istore B (lv' := [(8, .int 0), (7, .int 1), (0, .ref ax), (1, .ref pz), (2, .ref pn), (3, .ref pe), (4, .ref pv), (5, .ref px), (6, .ref ph)]) dL_isFleet_126 (by decide) rfl ?_
    refine z_lsub [2, 3, 4, 5, 6, 7, 8, 1, 0] rfl ?_
    refine kL_isFleet_C l hl K ax az sa ak tr tc X f n so sc D Cs Z W F O pz pn pe pv px ph Gz Gn Ge Gv Gl Gx Gh T hf1 hR B (Q := _) ?_ 16 0 rfl
    exact kL_isFleet_D l hl K ax az sa ak tr tc X f n so sc D Cs Z W F O pz pn pe pv px ph Gz Gn Ge Gv Gl Gx Gh T hf1 hR B
