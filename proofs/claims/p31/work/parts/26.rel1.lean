/-! RELATION: the class's caches and the law's slots -/
theorem r_us (f : Nat → Int32) (i : Nat) (v : Int32) : upd f i v i = v := pk_us
theorem r_un (f : Nat → Int32) {i j : Nat} (v : Int32) (h : j ≠ i) : upd f i v j = f j := pk_un h
theorem r_cl {j : Nat} (hj : j < 16) : (nI j).toNatClampNeg = j := nI_clamp (by omega)
theorem r_cl24 {j : Nat} (hj : j < 32) : (nI j).toNatClampNeg = j := nI_clamp (by omega)
theorem r_n0 {j : Nat} (hj : j < 16) : ¬ nI j < 0 := nI_pos (by omega)
theorem r_n16 {j : Nat} (hj : j < 16) : nI j < 16 := nI_lt hj (by decide)
theorem r_n16' {j : Nat} (hj : j < 16) : ¬ 16 ≤ nI j := nI_ge hj (by decide)
theorem r_vin {j : Nat} (hj : j < 16) : vp_in (nI j) 16 := vp_in_nI hj (by decide)
theorem r_in {i : Nat} {a b : Nat} (h : a < 100) (g : b < 100) : nI a = nI b ↔ a = b := nI_eq (by omega) (by omega)
/-- how many of a row are not z -/
def cno (z : Int32) (f : Nat → Int32) : Nat → Nat
  | 0 => 0
  | n + 1 => cno z f n + (if f n = z then 0 else 1)
theorem cno_upd (z : Int32) (f : Nat → Int32) (j : Nat) (v : Int32) : ∀ n, (n ≤ j → cno z (upd f j v) n = cno z f n) ∧ (j < n → cno z (upd f j v) n + (if f j = z then 0 else 1) = cno z f n + (if v = z then 0 else 1))
  | 0 => ⟨fun _ => rfl, fun h => absurd h (by omega)⟩
  | n + 1 => by
    obtain ⟨h1, h2⟩ := cno_upd z f j v n
    refine ⟨fun h => ?_, fun h => ?_⟩
    · rw [cno, cno, h1 (by omega), r_un _ _ (by omega)]
    · rw [cno, cno]
      by_cases e : n = j
      · subst e
        rw [h1 (Nat.le_refl _), r_us]
        generalize (if f n = z then 0 else 1) = x
        generalize (if v = z then 0 else 1) = y
        omega
      · rw [r_un _ _ e]
        have h3 := h2 (by omega)
        revert h3
        generalize (if f n = z then 0 else 1) = x
        generalize (if f j = z then 0 else 1) = y
        generalize (if v = z then 0 else 1) = w
        intro h3
        omega
theorem cno_congr {z : Int32} {f g : Nat → Int32} : ∀ {n : Nat}, (∀ j, j < n → f j = g j) → cno z f n = cno z g n
  | 0, _ => rfl
  | n + 1, h => by rw [cno, cno, cno_congr (fun j hj => h j (by omega)), h n (by omega)]
theorem cno_le (z : Int32) (f : Nat → Int32) : ∀ n, cno z f n ≤ n
  | 0 => Nat.le_refl _
  | n + 1 => by
    have h := cno_le z f n
    rw [cno]
    split <;> omega
theorem cno_all {z : Int32} {f : Nat → Int32} : ∀ {n : Nat}, (∀ j, j < n → ¬ f j = z) → cno z f n = n
  | 0, _ => rfl
  | n + 1, h => by rw [cno, cno_all (fun j hj => h j (by omega)), if_neg (h n (by omega))]
theorem cno_none {z : Int32} {f : Nat → Int32} : ∀ {n : Nat}, (∀ j, j < n → f j = z) → cno z f n = 0
  | 0, _ => rfl
  | n + 1, h => by rw [cno, cno_none (fun j hj => h j (by omega)), if_pos (h n (by omega))]
theorem cno_lt {z : Int32} {f : Nat → Int32} : ∀ {n d : Nat}, d < n → f d = z → cno z f n < n
  | n + 1, d, h, e => by
    have hl := cno_le z f n
    rw [cno]
    by_cases q : d = n
    · subst q
      rw [if_pos e]; omega
    · have := cno_lt (n := n) (d := d) (by omega) e
      split <;> omega
theorem cno_put {z : Int32} {f : Nat → Int32} {j n : Nat} {v : Int32} (hj : j < n) (h : f j = z) (hv : ¬ v = z) : cno z (upd f j v) n = cno z f n + 1 := by
  have h1 := (cno_upd z f j v n).2 hj
  rw [if_pos h, if_neg hv] at h1
  exact h1
theorem cno_same {z : Int32} {f : Nat → Int32} {j n : Nat} {v : Int32} (hj : j < n) (h : ¬ f j = z) (hv : ¬ v = z) : cno z (upd f j v) n = cno z f n := by
  have h1 := (cno_upd z f j v n).2 hj
  rw [if_neg h, if_neg hv] at h1
  omega
theorem cno_drop {z : Int32} {f : Nat → Int32} {j n : Nat} (hj : j < n) (h : ¬ f j = z) : cno z (upd f j z) n + 1 = cno z f n := by
  have h1 := (cno_upd z f j z n).2 hj
  rw [if_neg h, if_pos rfl] at h1
  omega
/-- the six slots of a site, from its first -/
def sx (Ge : Nat → Int32) (i : Nat) : Nat → Int32 := fun d => Ge (6 * i + d)
theorem sx_upd {Ge : Nat → Int32} {i d : Nat} {v : Int32} : sx (upd Ge (6 * i + d) v) i = upd (sx Ge i) d v := by
  funext d'
  unfold sx
  by_cases e : d' = d
  · subst e; rw [r_us, r_us]
  · rw [r_un _ _ e, r_un _ _ (by omega)]
theorem sx_out {Ge : Nat → Int32} {i k : Nat} {v : Int32} (h : k < 6 * i ∨ 6 * i + 6 ≤ k) {d : Nat} (hd : d < 6) : sx (upd Ge k v) i d = sx Ge i d := by
  unfold sx
  rw [r_un _ _ (by omega)]
-- the slot of a name
theorem sl_noL {Ge : Nat → Int32} {i : Nat} {x : Int32} : ∀ n a, a + n = 6 → (∀ b, a ≤ b → b < 6 → ¬ Ge (6 * i + b) = x + 1) → fL_slot_L5 Ge i x n a = (-1)
  | 0, a, _, _ => rfl
  | n + 1, a, h, hb => by
    rw [fL_slot_L5, if_neg (hb a (Nat.le_refl _) (by omega))]
    exact sl_noL n (a + 1) (by omega) (fun b h1 h2 => hb b (by omega) h2)
theorem sl_atL {Ge : Nat → Int32} {i b : Nat} {x : Int32} (hb : b < 6) (e : Ge (6 * i + b) = x + 1) (hu : ∀ c, c < 6 → Ge (6 * i + c) = x + 1 → c = b) : ∀ n a, a + n = 6 → a ≤ b → fL_slot_L5 Ge i x n a = nI (6 * i + b)
  | 0, a, h, h2 => absurd hb (by omega)
  | n + 1, a, h, h2 => by
    rw [fL_slot_L5]
    split
    · rename_i q
      rw [hu a (by omega) q]
    · rename_i q
      have hne : a ≠ b := fun q2 => q (by rw [q2]; exact e)
      exact sl_atL hb e hu n (a + 1) (by omega) (by omega)
theorem sl_no {Ge : Nat → Int32} {i : Nat} {x : Int32} (h : ∀ k, 6 * i ≤ k → k < 6 * i + 6 → ¬ Ge k = x + 1) : fL_slot Ge i x = (-1) := sl_noL 6 0 rfl (fun b _ h2 => h _ (by omega) (by omega))
theorem sl_at {Ge : Nat → Int32} {i k : Nat} {x : Int32} (h1 : 6 * i ≤ k) (h2 : k < 6 * i + 6) (e : Ge k = x + 1) (hu : ∀ c, 6 * i ≤ c → c < 6 * i + 6 → Ge c = x + 1 → c = k) : fL_slot Ge i x = nI k := by
  obtain ⟨b, rfl⟩ : ∃ b, k = 6 * i + b := ⟨k - 6 * i, by omega⟩
  exact sl_atL (by omega) e (fun c hc q => by have := hu (6 * i + c) (by omega) (by omega) q; omega) 6 0 rfl (by omega)
/-- what an entry or a name tells: its kind and value on one side, the law's one number on the other -/
def rT (kd val v : Int32) : Prop := (0 < v ∧ kd = 0 ∧ val = v) ∨ (v < 0 ∧ kd = 1 ∧ val = (-1) - v) ∨ (v = 0 ∧ kd = 2 ∧ val = (-3))
theorem rT.n3 {kd val v : Int32} (h : rT kd val v) : ¬ kd = 3 := by
  rcases h with ⟨_, h, _⟩ | ⟨_, h, _⟩ | ⟨_, h, _⟩ <;> rw [h] <;> decide
/-- the entry for the name j lies in the slot k -/
def rEn (C : Nat → Nat → Int32) (Gv Gl Gx Gh : Nat → Int32) (j k : Nat) : Prop := rT (C 0 j) (C 1 j) (Gv k) ∧ C 2 j = Gl k ∧ C 3 j = Gx k ∧ C 4 j = Gh k
def inS (i k : Nat) : Prop := 6 * i ≤ k ∧ k < 6 * i + 6
/-- a cache of the class, and a site's six slots -/
def rS (i : Nat) (C : Nat → Nat → Int32) (Ge Gv Gl Gx Gh : Nat → Int32) : Prop :=
  (∀ k, inS i k → Ge k = 0 ∨ ∃ j, j < 16 ∧ Ge k = nI (j + 1) ∧ rEn C Gv Gl Gx Gh j k) ∧
  (∀ k k', inS i k → inS i k' → Ge k = Ge k' → ¬ Ge k = 0 → k = k') ∧
  (∀ j, j < 16 → ¬ C 0 j = 3 → ∃ k, inS i k ∧ Ge k = nI (j + 1)) ∧
  C 5 0 = nI (cno 3 (C 0) 16) ∧ cno 3 (C 0) 16 = cno 0 (sx Ge i) 6
theorem r_j1 {j : Nat} (hj : j < 16) : ¬ nI (j + 1) = 0 := nI_ne0 (by omega) (by omega)
theorem r_jj {j j' : Nat} (hj : j < 16) (hj' : j' < 16) (h : nI (j + 1) = nI (j' + 1)) : j = j' := by
  have := (nI_eq (by omega) (by omega)).mp h
  omega
theorem rS.has {i : Nat} {C : Nat → Nat → Int32} {Ge Gv Gl Gx Gh : Nat → Int32} (h : rS i C Ge Gv Gl Gx Gh) {j k : Nat} (hj : j < 16) (hk : inS i k) (e : Ge k = nI (j + 1)) : rEn C Gv Gl Gx Gh j k := by
  rcases h.1 k hk with h0 | ⟨j', hj', e', h'⟩
  · exact absurd (e.symm.trans h0) (r_j1 hj)
  · rw [r_jj hj hj' (e.symm.trans e')]; exact h'
theorem rS.slot {i : Nat} {C : Nat → Nat → Int32} {Ge Gv Gl Gx Gh : Nat → Int32} (h : rS i C Ge Gv Gl Gx Gh) {j : Nat} (hj : j < 16) : (fL_slot Ge i (nI j) = (-1) ∧ C 0 j = 3) ∨ ∃ k, inS i k ∧ fL_slot Ge i (nI j) = nI k ∧ Ge k = nI (j + 1) ∧ rEn C Gv Gl Gx Gh j k := by
  by_cases c : C 0 j = 3
  · refine Or.inl ⟨sl_no fun k h1 h2 q => ?_, c⟩
    rw [nI_1] at q
    exact (h.has hj ⟨h1, h2⟩ q).1.n3 c
  · obtain ⟨k, hk, e⟩ := h.2.2.1 j hj c
    refine Or.inr ⟨k, hk, sl_at hk.1 hk.2 (by rw [nI_1]; exact e) (fun c h1 h2 q => ?_), e, h.has hj hk e⟩
    rw [nI_1] at q
    exact h.2.1 c k ⟨h1, h2⟩ hk (q.trans e.symm) (by rw [q]; exact r_j1 hj)
/-- the class's cache without the entry for b -/
def zDr (C : Nat → Nat → Int32) (b : Nat) : Nat → Nat → Int32 := va_up (va_up C 0 (upd (C 0) b 3)) 5 (fun _ => C 5 0 - 1)
theorem rS.drop {i : Nat} {C : Nat → Nat → Int32} {Ge Gv Gl Gx Gh : Nat → Int32} (h : rS i C Ge Gv Gl Gx Gh) {b k : Nat} (hb : b < 16) (hk : inS i k) (e : Ge k = nI (b + 1)) : rS i (zDr C b) (upd Ge k 0) Gv Gl Gx Gh := by
  have hn : ¬ C 0 b = 3 := (h.has hb hk e).1.n3
  have o : ∀ k', inS i k' → k' ≠ k → ¬ Ge k' = nI (b + 1) := fun k' h' q q2 => q (h.2.1 k' k h' hk (q2.trans e.symm) (by rw [q2]; exact r_j1 hb))
  refine ⟨fun k' hk' => ?_, fun k1 k2 h1 h2 q q0 => ?_, fun j hj hj3 => ?_, ?_, ?_⟩
  · by_cases q : k' = k
    · rw [q, r_us]; exact Or.inl rfl
    · rw [r_un _ _ q]
      rcases h.1 k' hk' with h0 | ⟨j, hj, ej, hh⟩
      · exact Or.inl h0
      · have hne : j ≠ b := fun q2 => o k' hk' q (by rw [ej, q2])
        refine Or.inr ⟨j, hj, ej, ?_⟩
        show rT (upd (C 0) b 3 j) (C 1 j) (Gv k') ∧ _
        rw [r_un _ _ hne]; exact hh
  · by_cases q1 : k1 = k
    · rw [q1, r_us] at q0; exact absurd rfl q0
    · by_cases q2 : k2 = k
      · rw [q2, r_us] at q; exact absurd q q0
      · rw [r_un _ _ q1, r_un _ _ q2] at q
        rw [r_un _ _ q1] at q0
        exact h.2.1 k1 k2 h1 h2 q q0
  · change ¬ upd (C 0) b 3 j = 3 at hj3
    have hne : j ≠ b := fun q => hj3 (by rw [q, r_us])
    rw [r_un _ _ hne] at hj3
    obtain ⟨k', hk', e'⟩ := h.2.2.1 j hj hj3
    refine ⟨k', hk', ?_⟩
    have : k' ≠ k := fun q => hne (r_jj hj hb (by rw [← e', q, e]))
    rw [r_un _ _ this]; exact e'
  · show C 5 0 - 1 = nI (cno 3 (upd (C 0) b 3) 16)
    have c1 := cno_drop (z := 3) hb hn
    rw [h.2.2.2.1, ← c1, nI_pred]
  · show cno 3 (upd (C 0) b 3) 16 = cno 0 (sx (upd Ge k 0) i) 6
    have c1 := cno_drop (z := 3) hb hn
    obtain ⟨d, rfl⟩ : ∃ d, k = 6 * i + d := ⟨k - 6 * i, by have := hk.1; omega⟩
    have c2 := cno_drop (z := 0) (f := sx Ge i) (j := d) (n := 6) (by have := hk.2; omega) (by show ¬ Ge (6 * i + d) = 0; rw [e]; exact r_j1 hb)
    rw [sx_upd]
    have := h.2.2.2.2
    omega
/-- an entry put in place -/
def zP (C : Nat → Nat → Int32) (j : Nat) (k v lf en : Int32) : Nat → Nat → Int32 := va_up (va_up (va_up (va_up (va_up C 0 (upd (C 0) j k)) 1 (upd (C 1) j v)) 2 (upd (C 2) j lf)) 3 (upd (C 3) j en)) 4 (upd (C 4) j 0)
theorem zP_j {C : Nat → Nat → Int32} {j : Nat} {kd val lf en : Int32} : zP C j kd val lf en 0 j = kd ∧ zP C j kd val lf en 1 j = val ∧ zP C j kd val lf en 2 j = lf ∧ zP C j kd val lf en 3 j = en ∧ zP C j kd val lf en 4 j = 0 := ⟨pk_us, pk_us, pk_us, pk_us, pk_us⟩
theorem zP_o {C : Nat → Nat → Int32} {j j' : Nat} {kd val lf en : Int32} (h : j' ≠ j) {r : Nat} (hr : r < 5) : zP C j kd val lf en r j' = C r j' := by
  rcases (show r = 0 ∨ r = 1 ∨ r = 2 ∨ r = 3 ∨ r = 4 by omega) with rfl | rfl | rfl | rfl | rfl
  · exact pk_un h
  · exact pk_un h
  · exact pk_un h
  · exact pk_un h
  · exact pk_un h
/-- the slots' side of a put, but the sizes -/
theorem rS.set {i : Nat} {C : Nat → Nat → Int32} {Ge Gv Gl Gx Gh : Nat → Int32} (h : rS i C Ge Gv Gl Gx Gh) {j k : Nat} {kd val v lf en : Int32} (hj : j < 16) (hk : inS i k) (hT : rT kd val v) (hkj : Ge k = 0 ∨ Ge k = nI (j + 1)) (ho : ∀ k', inS i k' → k' ≠ k → ¬ Ge k' = nI (j + 1)) {D : Nat → Nat → Int32} (hD : ∀ r, r < 5 → D r = zP C j kd val lf en r) :
    (∀ k', inS i k' → (upd Ge k (nI (j + 1))) k' = 0 ∨ ∃ j', j' < 16 ∧ (upd Ge k (nI (j + 1))) k' = nI (j' + 1) ∧ rEn D (upd Gv k v) (upd Gl k lf) (upd Gx k en) (upd Gh k 0) j' k') ∧
    (∀ k1 k2, inS i k1 → inS i k2 → (upd Ge k (nI (j + 1))) k1 = (upd Ge k (nI (j + 1))) k2 → ¬ (upd Ge k (nI (j + 1))) k1 = 0 → k1 = k2) ∧
    (∀ j', j' < 16 → ¬ D 0 j' = 3 → ∃ k', inS i k' ∧ (upd Ge k (nI (j + 1))) k' = nI (j' + 1)) := by
  have zj := zP_j (C := C) (j := j) (kd := kd) (val := val) (lf := lf) (en := en)
  refine ⟨fun k' hk' => ?_, fun k1 k2 h1 h2 q q0 => ?_, fun j' hj' h3 => ?_⟩
  · by_cases q : k' = k
    · subst q
      refine Or.inr ⟨j, hj, r_us _ _ _, ?_, ?_, ?_, ?_⟩
      · rw [hD 0 (by decide), hD 1 (by decide), zj.1, zj.2.1, r_us]; exact hT
      · rw [hD 2 (by decide), zj.2.2.1, r_us]
      · rw [hD 3 (by decide), zj.2.2.2.1, r_us]
      · rw [hD 4 (by decide), zj.2.2.2.2, r_us]
    · rw [r_un _ _ q]
      rcases h.1 k' hk' with h0 | ⟨j', hj', ej, hh⟩
      · exact Or.inl h0
      · have hne : j' ≠ j := fun q2 => ho k' hk' q (by rw [ej, q2])
        refine Or.inr ⟨j', hj', ej, ?_⟩
        unfold rEn
        rw [hD 0 (by decide), hD 1 (by decide), hD 2 (by decide), hD 3 (by decide), hD 4 (by decide), zP_o hne (by decide), zP_o hne (by decide), zP_o hne (by decide), zP_o hne (by decide), zP_o hne (by decide), r_un _ _ q, r_un _ _ q, r_un _ _ q, r_un _ _ q]
        exact hh
  · by_cases q1 : k1 = k
    · by_cases q2 : k2 = k
      · rw [q1, q2]
      · rw [q1, r_us, r_un _ _ q2] at q
        exact absurd q.symm (ho k2 h2 q2)
    · by_cases q2 : k2 = k
      · rw [q2, r_us, r_un _ _ q1] at q
        exact absurd q (ho k1 h1 q1)
      · rw [r_un _ _ q1, r_un _ _ q2] at q
        rw [r_un _ _ q1] at q0
        exact h.2.1 k1 k2 h1 h2 q q0
  · by_cases q : j' = j
    · subst q; exact ⟨k, hk, r_us _ _ _⟩
    · rw [hD 0 (by decide), zP_o q (by decide)] at h3
      obtain ⟨k', hk', e'⟩ := h.2.2.1 j' hj' h3
      have : k' ≠ k := fun q2 => by
        rcases hkj with h0 | h0
        · rw [q2, h0] at e'; exact r_j1 hj' e'.symm
        · rw [q2, h0] at e'; exact q (r_jj hj' hj e'.symm)
      exact ⟨k', hk', by rw [r_un _ _ this]; exact e'⟩
theorem rS.putE {i : Nat} {C : Nat → Nat → Int32} {Ge Gv Gl Gx Gh : Nat → Int32} (h : rS i C Ge Gv Gl Gx Gh) {j k : Nat} {kd val v lf en : Int32} (hj : j < 16) (hk : inS i k) (hT : rT kd val v) (h0 : Ge k = 0) (h3 : C 0 j = 3) :
    rS i (va_up (zP C j kd val lf en) 5 (fun _ => C 5 0 + 1)) (upd Ge k (nI (j + 1))) (upd Gv k v) (upd Gl k lf) (upd Gx k en) (upd Gh k 0) := by
  obtain ⟨a1, a2, a3⟩ := h.set (lf := lf) (en := en) hj hk hT (Or.inl h0) (fun k' hk' _ q => (h.has hj hk' q).1.n3 h3) (D := va_up (zP C j kd val lf en) 5 (fun _ => C 5 0 + 1)) (fun r hr => va_up_ne _ _ (by omega))
  refine ⟨a1, a2, a3, ?_, ?_⟩
  · show C 5 0 + 1 = nI (cno 3 (upd (C 0) j kd) 16)
    rw [cno_put hj h3 hT.n3, h.2.2.2.1, nI_1]
  · show cno 3 (upd (C 0) j kd) 16 = cno 0 (sx (upd Ge k (nI (j + 1))) i) 6
    obtain ⟨d, rfl⟩ : ∃ d, k = 6 * i + d := ⟨k - 6 * i, by have := hk.1; omega⟩
    rw [cno_put hj h3 hT.n3, sx_upd, cno_put (f := sx Ge i) (by have := hk.2; omega) h0 (r_j1 hj), h.2.2.2.2]
theorem rS.putR {i : Nat} {C : Nat → Nat → Int32} {Ge Gv Gl Gx Gh : Nat → Int32} (h : rS i C Ge Gv Gl Gx Gh) {j k : Nat} {kd val v lf en : Int32} (hj : j < 16) (hk : inS i k) (hT : rT kd val v) (h0 : Ge k = nI (j + 1)) :
    rS i (zP C j kd val lf en) (upd Ge k (nI (j + 1))) (upd Gv k v) (upd Gl k lf) (upd Gx k en) (upd Gh k 0) := by
  have h3 : ¬ C 0 j = 3 := (h.has hj hk h0).1.n3
  obtain ⟨a1, a2, a3⟩ := h.set (lf := lf) (en := en) hj hk hT (Or.inr h0) (fun k' hk' q q2 => q (h.2.1 k' k hk' hk (q2.trans h0.symm) (by rw [q2]; exact r_j1 hj))) (D := zP C j kd val lf en) (fun r hr => rfl)
  refine ⟨a1, a2, a3, ?_, ?_⟩
  · show C 5 0 = nI (cno 3 (upd (C 0) j kd) 16)
    rw [cno_same hj h3 hT.n3, h.2.2.2.1]
  · show cno 3 (upd (C 0) j kd) 16 = cno 0 (sx (upd Ge k (nI (j + 1))) i) 6
    obtain ⟨d, rfl⟩ : ∃ d, k = 6 * i + d := ⟨k - 6 * i, by have := hk.1; omega⟩
    rw [cno_same hj h3 hT.n3, sx_upd, cno_same (f := sx Ge i) (by have := hk.2; omega) (by show ¬ Ge (6 * i + d) = 0; rw [h0]; exact r_j1 hj) (r_j1 hj), h.2.2.2.2]
/-- the relation speaks of the six slots and of the names' places alone -/
theorem rS.congr {i : Nat} {C C' : Nat → Nat → Int32} {Ge Gv Gl Gx Gh Ge' Gv' Gl' Gx' Gh' : Nat → Int32} (h : rS i C Ge Gv Gl Gx Gh) (hC : ∀ r, r < 5 → ∀ j, j < 16 → C' r j = C r j) (h5 : C' 5 0 = C 5 0) (he : ∀ k, inS i k → Ge' k = Ge k) (hv : ∀ k, inS i k → Gv' k = Gv k) (hl : ∀ k, inS i k → Gl' k = Gl k) (hx : ∀ k, inS i k → Gx' k = Gx k) (hh : ∀ k, inS i k → Gh' k = Gh k) : rS i C' Ge' Gv' Gl' Gx' Gh' := by
  refine ⟨fun k hk => ?_, fun k k' hk hk' q q0 => ?_, fun j hj h3 => ?_, ?_, ?_⟩
  · rw [he k hk]
    refine (h.1 k hk).imp id (fun ⟨j, hj, e, g⟩ => ⟨j, hj, e, ?_⟩)
    unfold rEn
    rw [hC 0 (by decide) j hj, hC 1 (by decide) j hj, hC 2 (by decide) j hj, hC 3 (by decide) j hj, hC 4 (by decide) j hj, hv k hk, hl k hk, hx k hk, hh k hk]
    exact g
  · rw [he k hk, he k' hk'] at q
    rw [he k hk] at q0
    exact h.2.1 k k' hk hk' q q0
  · rw [hC 0 (by decide) j hj] at h3
    obtain ⟨k, hk, e⟩ := h.2.2.1 j hj h3
    exact ⟨k, hk, by rw [he k hk]; exact e⟩
  · rw [h5, h.2.2.2.1, cno_congr (fun j hj => hC 0 (by decide) j hj)]
  · rw [cno_congr (fun j hj => hC 0 (by decide) j hj), h.2.2.2.2]
    exact cno_congr fun d hd => (he _ ⟨by omega, by omega⟩).symm
