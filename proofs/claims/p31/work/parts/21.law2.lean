/-! THE LAW'S OWN METHODS: resolves, asks, tries, told -/
def fT77 (Ge Gx : Nat → Int32) (i : Nat) : Nat → Nat → Int32 → Int32
  | 0, _, g => g
  | n + 1, a, g => if Gx (6 * i + 1 + a) < Gx g.toNatClampNeg then fT77 Ge Gx i n (a + 1) (nI (6 * i + 1 + a)) else if Gx (6 * i + 1 + a) = Gx g.toNatClampNeg then (if Ge g.toNatClampNeg ≤ Ge (6 * i + 1 + a) then fT77 Ge Gx i n (a + 1) g else fT77 Ge Gx i n (a + 1) (nI (6 * i + 1 + a))) else fT77 Ge Gx i n (a + 1) g
def fT17 (Ge Gx : Nat → Int32) (i : Nat) : Nat → Nat → Int32 → Int32
  | 0, _, g => if 0 ≤ g then g else fT77 Ge Gx i 5 0 (nI (6 * i))
  | n + 1, a, g => if 0 ≤ g then g else if Ge (6 * i + a) = 0 then fT17 Ge Gx i n (a + 1) (nI (6 * i + a)) else fT17 Ge Gx i n (a + 1) (-1)
/-- where a fetch goes -/
def fTo (Ge Gx : Nat → Int32) (i : Nat) (x2 : Int32) : Nat := (fT17 Ge Gx i 6 0 (fL_slot Ge i x2)).toNatClampNeg
def fLf (Gz Gn : Nat → Int32) (x2 : Int32) : Int32 := if (Gz x2.toNatClampNeg) = 0 then Gn 1 else Gz ((16 + x2).toNatClampNeg)
/-- a fetch, by where it goes -/
def fTl (Gz Gn Ge Gv Gl Gx Gh : Nat → Int32) (x2 : Int32) (t : Nat) : (Nat → Int32) × (Nat → Int32) × (Nat → Int32) × (Nat → Int32) × (Nat → Int32) × (Nat → Int32) :=
  ((upd (upd Gn 11 ((Gn 11) + 1)) 18 ((Gn 18) + 1)), (upd Ge t (x2 + 1)), (upd Gv t (Gz x2.toNatClampNeg)), (upd Gl t (fLf Gz Gn x2)), (upd Gx t ((Gn 0) + fLf Gz Gn x2)), (upd Gh t 0))
theorem z_tl {Gz Gn Ge Gv Gl Gx Gh : Nat → Int32} {x2 : Int32} {t : Nat} : fTl Gz Gn Ge Gv Gl Gx Gh x2 t = if (Gz x2.toNatClampNeg) = 0 then ((upd (upd Gn 11 ((Gn 11) + 1)) 18 ((Gn 18) + 1)), (upd Ge t (x2 + 1)), (upd Gv t (Gz x2.toNatClampNeg)), (upd Gl t (Gn 1)), (upd Gx t ((Gn 0) + (Gn 1))), (upd Gh t 0))
    else ((upd (upd Gn 11 ((Gn 11) + 1)) 18 ((Gn 18) + 1)), (upd Ge t (x2 + 1)), (upd Gv t (Gz x2.toNatClampNeg)), (upd Gl t (Gz ((16 + x2).toNatClampNeg))), (upd Gx t ((Gn 0) + (Gz ((16 + x2).toNatClampNeg)))), (upd Gh t 0)) := by
  unfold fTl fLf
  split <;> rfl
theorem z_ft77 {Gz Gn Ge Gv Gl Gx Gh : Nat → Int32} {i : Nat} {x2 : Int32} : ∀ n a g, fL_fetches_L77 Gz Gn Ge Gv Gl Gx Gh i x2 n a g = fTl Gz Gn Ge Gv Gl Gx Gh x2 (fT77 Ge Gx i n a g).toNatClampNeg
  | 0, a, g => by rw [fL_fetches_L77, fT77, z_tl]
  | n + 1, a, g => by
    rw [fL_fetches_L77, fT77]
    split
    · exact z_ft77 n (a + 1) _
    · split
      · split
        · exact z_ft77 n (a + 1) _
        · exact z_ft77 n (a + 1) _
      · exact z_ft77 n (a + 1) _
theorem z_ft17 {Gz Gn Ge Gv Gl Gx Gh : Nat → Int32} {i : Nat} {x2 : Int32} : ∀ n a g, fL_fetches_L17 Gz Gn Ge Gv Gl Gx Gh i x2 n a g = fTl Gz Gn Ge Gv Gl Gx Gh x2 (fT17 Ge Gx i n a g).toNatClampNeg
  | 0, a, g => by
    rw [fL_fetches_L17, fT17]
    split
    · exact z_tl.symm
    · exact z_ft77 5 0 _
  | n + 1, a, g => by
    rw [fL_fetches_L17, fT17]
    split
    · exact z_tl.symm
    · split
      · exact z_ft17 n (a + 1) _
      · exact z_ft17 n (a + 1) _
theorem z_ft {Gz Gn Ge Gv Gl Gx Gh : Nat → Int32} {i : Nat} {x2 : Int32} : fL_fetches Gz Gn Ge Gv Gl Gx Gh i x2 = fTl Gz Gn Ge Gv Gl Gx Gh x2 (fTo Ge Gx i x2) := z_ft17 6 0 _
def zwV (Gv : Nat → Int32) : Prop := ∀ k, Gv k < 0 → vp_in ((-1) - Gv k) 16
theorem z_ftV {Gz Gn Ge Gv Gl Gx Gh : Nat → Int32} {i : Nat} {x2 : Int32} (hn : vp_in x2 16) (hz : zwz Gz) (hV : zwV Gv) : zwV (fL_fetches Gz Gn Ge Gv Gl Gx Gh i x2).2.2.1 := by
  rw [z_ft]
  intro k
  show (upd Gv (fTo Ge Gx i x2) (Gz x2.toNatClampNeg)) k < 0 → vp_in ((-1) - (upd Gv (fTo Ge Gx i x2) (Gz x2.toNatClampNeg)) k) 16
  by_cases e : k = fTo Ge Gx i x2
  · rw [e, pk_us]; exact z_wz hz hn
  · rw [pk_un e]; exact hV k
theorem z_ftN {Gz Gn Ge Gv Gl Gx Gh : Nat → Int32} {i : Nat} {x2 : Int32} {k : Nat} (h1 : k ≠ 11) (h2 : k ≠ 18) : (fL_fetches Gz Gn Ge Gv Gl Gx Gh i x2).1 k = Gn k := by
  rw [z_ft]
  show (upd (upd Gn 11 ((Gn 11) + 1)) 18 ((Gn 18) + 1)) k = Gn k
  rw [pk_un h2, pk_un h1]
theorem z_s0 {x : Int32} (h : 0 ≤ x) (h2 : x ≤ 0) : x = 0 := Int32.le_antisymm h2 h
theorem z_s1 {x : Int32} (h : ¬ 0 ≤ x) : x ≤ 0 := Int32.le_of_lt (Int32.not_le.mp h)
theorem z_s2 {x : Int32} (h : ¬ 0 ≤ x) : ¬ x = 0 := fun e => h (by rw [e]; decide)
theorem z_s3 {x : Int32} (h : ¬ x < 0) : 0 ≤ x := Int32.not_lt.mp h
theorem z_m6 {x : Int32} {a N : Nat} (h : ∃ m, m ≤ a ∧ x = nI m) (ha : a < N) (hN : N < 2 ^ 31) : vp_in x N := by
  obtain ⟨m, hm, rfl⟩ := h
  exact vp_in_nI (by omega) hN
theorem z_m0 {a : Nat} : ∃ m, m ≤ a ∧ (0 : Int32) = nI m := ⟨0, Nat.zero_le _, nI_0.symm⟩
theorem z_mS {x : Int32} {a : Nat} (h : ∃ m, m ≤ a ∧ x = nI m) : ∃ m, m ≤ a + 1 ∧ x + 1 = nI m := by
  obtain ⟨m, hm, rfl⟩ := h
  exact ⟨m + 1, by omega, nI_1 m⟩
theorem z_mK {x : Int32} {a : Nat} (h : ∃ m, m ≤ a ∧ x = nI m) : ∃ m, m ≤ a + 1 ∧ x = nI m := by
  obtain ⟨m, hm, e⟩ := h
  exact ⟨m, by omega, e⟩
theorem z_mL {x : Int32} {a b : Nat} (h : ∃ m, m ≤ a ∧ x = nI m) (hb : a ≤ b) : ∃ m, m ≤ b ∧ x = nI m := by
  obtain ⟨m, hm, e⟩ := h
  exact ⟨m, by omega, e⟩
theorem z_mr {x : Int32} {a n : Nat} (h : ∃ m, m ≤ 5 ∧ x = nI m) (ha : a + (n + 1) = x.toNatClampNeg) : a < 6 := by
  obtain ⟨m, hm, e⟩ := h
  rw [e, nI_clamp (by omega)] at ha
  omega
theorem z_mx {x : Int32} (h : ∃ m, m ≤ 5 ∧ x = nI m) : ¬ x < 0 := by
  obtain ⟨m, hm, e⟩ := h
  rw [e]
  exact nI_pos (by omega)
theorem z_uU {U : Nat → Int32} {k : Nat} {x : Int32} (h : ∀ t, vp_in (U t) 16) (hx : vp_in x 16) : ∀ t, vp_in ((upd U k x) t) 16 := by
  intro t
  by_cases e : t = k
  · rw [e, pk_us]; exact hx
  · rw [pk_un e]; exact h t
theorem z_u0 : ∀ t : Nat, vp_in ((fun _ => 0 : Nat → Int32) t) 16 := fun _ => show vp_in (nI 0) 16 from vp_in_nI (by decide) (by decide)
def fL_resolves_L269 (Gz : Nat → Int32) (Gn : Nat → Int32) (Ge : Nat → Int32) (Gv : Nat → Int32) (Gl : Nat → Int32) (Gx : Nat → Int32) (Gh : Nat → Int32) (i : Nat) (x2 : Int32) : Nat → Nat → (Int32) → (Int32) → (Nat → Int32) → (Nat → Int32) → (Nat → Int32) → (Nat → Int32) → (Nat → Int32) → (Nat → Int32) → (Nat → Int32) → (Nat → Int32) → Int32 × (Nat → Int32) × (Nat → Int32) × (Nat → Int32) × (Nat → Int32) × (Nat → Int32) × (Nat → Int32)
  | 0, a, mn, an, N1, E1, V1, L1, X1, H1, U, En =>
    (an, N1, E1, V1, L1, X1, H1)
  | n + 1, a, mn, an, N1, E1, V1, L1, X1, H1, U, En =>
    if (N1 2) = 1 then
      if (fL_slot E1 i (U a)) < 0 then
        fL_resolves_L269 Gz Gn Ge Gv Gl Gx Gh i x2 n (a + 1) mn an N1 E1 V1 L1 X1 H1 U En
      else
        if (X1 ((fL_slot E1 i (U a)).toNatClampNeg)) = (En a) then
          if (H1 ((fL_slot E1 i (U a)).toNatClampNeg)) ≤ 2 then
            fL_resolves_L269 Gz Gn Ge Gv Gl Gx Gh i x2 n (a + 1) mn an N1 E1 V1 L1 X1 H1 U En
          else
            if (L1 ((fL_slot E1 i (U a)).toNatClampNeg)) < (4 * ((X1 ((fL_slot E1 i (U a)).toNatClampNeg)) - (N1 0))) then
              fL_resolves_L269 Gz Gn Ge Gv Gl Gx Gh i x2 n (a + 1) mn an N1 E1 V1 L1 X1 H1 U En
            else
              fL_resolves_L269 Gz Gn Ge Gv Gl Gx Gh i x2 n (a + 1) mn an (upd ((fL_fetches Gz N1 E1 V1 L1 X1 H1 i (U a)).1) 12 ((((fL_fetches Gz N1 E1 V1 L1 X1 H1 i (U a)).1) 12) + 1)) ((fL_fetches Gz N1 E1 V1 L1 X1 H1 i (U a)).2.1) ((fL_fetches Gz N1 E1 V1 L1 X1 H1 i (U a)).2.2.1) ((fL_fetches Gz N1 E1 V1 L1 X1 H1 i (U a)).2.2.2.1) ((fL_fetches Gz N1 E1 V1 L1 X1 H1 i (U a)).2.2.2.2.1) ((fL_fetches Gz N1 E1 V1 L1 X1 H1 i (U a)).2.2.2.2.2) U En
        else
          fL_resolves_L269 Gz Gn Ge Gv Gl Gx Gh i x2 n (a + 1) mn an N1 E1 V1 L1 X1 H1 U En
    else
      fL_resolves_L269 Gz Gn Ge Gv Gl Gx Gh i x2 n (a + 1) mn an N1 E1 V1 L1 X1 H1 U En
def fL_resolves_L41 (Gz : Nat → Int32) (Gn : Nat → Int32) (Ge : Nat → Int32) (Gv : Nat → Int32) (Gl : Nat → Int32) (Gx : Nat → Int32) (Gh : Nat → Int32) (i : Nat) (x2 : Int32) : Nat → Nat → (Int32) → (Int32) → (Int32) → (Int32) → (Nat → Int32) → (Nat → Int32) → (Nat → Int32) → (Nat → Int32) → (Nat → Int32) → (Nat → Int32) → (Nat → Int32) → (Nat → Int32) → Int32 × (Nat → Int32) × (Nat → Int32) × (Nat → Int32) × (Nat → Int32) × (Nat → Int32) × (Nat → Int32)
  | 0, a, mn, an, nx, go, N1, E1, V1, L1, X1, H1, U, En =>
    if go = 0 then
      fL_resolves_L269 Gz Gn Ge Gv Gl Gx Gh i x2 mn.toNatClampNeg 0 mn an N1 E1 V1 L1 X1 H1 U En
    else
      fL_resolves_L269 Gz Gn Ge Gv Gl Gx Gh i x2 mn.toNatClampNeg 0 mn an N1 E1 V1 L1 X1 H1 U En
  | n + 1, a, mn, an, nx, go, N1, E1, V1, L1, X1, H1, U, En =>
    if go = 0 then
      fL_resolves_L269 Gz Gn Ge Gv Gl Gx Gh i x2 mn.toNatClampNeg 0 mn an N1 E1 V1 L1 X1 H1 U En
    else
      if (fL_slot E1 i nx) < 0 then
        if (N1 2) = 1 then
          if (fL_slot ((fL_fetches Gz (upd N1 17 ((N1 17) + 1)) E1 V1 L1 X1 H1 i nx).2.1) i nx) < 0 then
            fL_resolves_L41 Gz Gn Ge Gv Gl Gx Gh i x2 n (a + 1) mn (-2) nx 0 ((fL_fetches Gz (upd N1 17 ((N1 17) + 1)) E1 V1 L1 X1 H1 i nx).1) ((fL_fetches Gz (upd N1 17 ((N1 17) + 1)) E1 V1 L1 X1 H1 i nx).2.1) ((fL_fetches Gz (upd N1 17 ((N1 17) + 1)) E1 V1 L1 X1 H1 i nx).2.2.1) ((fL_fetches Gz (upd N1 17 ((N1 17) + 1)) E1 V1 L1 X1 H1 i nx).2.2.2.1) ((fL_fetches Gz (upd N1 17 ((N1 17) + 1)) E1 V1 L1 X1 H1 i nx).2.2.2.2.1) ((fL_fetches Gz (upd N1 17 ((N1 17) + 1)) E1 V1 L1 X1 H1 i nx).2.2.2.2.2) U En
          else
            if 0 ≤ (((fL_fetches Gz (upd N1 17 ((N1 17) + 1)) E1 V1 L1 X1 H1 i nx).2.2.1) ((fL_slot ((fL_fetches Gz (upd N1 17 ((N1 17) + 1)) E1 V1 L1 X1 H1 i nx).2.1) i nx).toNatClampNeg)) then
              if (((fL_fetches Gz (upd N1 17 ((N1 17) + 1)) E1 V1 L1 X1 H1 i nx).2.2.1) ((fL_slot ((fL_fetches Gz (upd N1 17 ((N1 17) + 1)) E1 V1 L1 X1 H1 i nx).2.1) i nx).toNatClampNeg)) ≤ 0 then
                fL_resolves_L41 Gz Gn Ge Gv Gl Gx Gh i x2 n (a + 1) mn (-1) nx 0 ((fL_fetches Gz (upd N1 17 ((N1 17) + 1)) E1 V1 L1 X1 H1 i nx).1) ((fL_fetches Gz (upd N1 17 ((N1 17) + 1)) E1 V1 L1 X1 H1 i nx).2.1) ((fL_fetches Gz (upd N1 17 ((N1 17) + 1)) E1 V1 L1 X1 H1 i nx).2.2.1) ((fL_fetches Gz (upd N1 17 ((N1 17) + 1)) E1 V1 L1 X1 H1 i nx).2.2.2.1) ((fL_fetches Gz (upd N1 17 ((N1 17) + 1)) E1 V1 L1 X1 H1 i nx).2.2.2.2.1) ((fL_fetches Gz (upd N1 17 ((N1 17) + 1)) E1 V1 L1 X1 H1 i nx).2.2.2.2.2) U En
              else
                fL_resolves_L41 Gz Gn Ge Gv Gl Gx Gh i x2 n (a + 1) mn (((fL_fetches Gz (upd N1 17 ((N1 17) + 1)) E1 V1 L1 X1 H1 i nx).2.2.1) ((fL_slot ((fL_fetches Gz (upd N1 17 ((N1 17) + 1)) E1 V1 L1 X1 H1 i nx).2.1) i nx).toNatClampNeg)) nx 0 ((fL_fetches Gz (upd N1 17 ((N1 17) + 1)) E1 V1 L1 X1 H1 i nx).1) ((fL_fetches Gz (upd N1 17 ((N1 17) + 1)) E1 V1 L1 X1 H1 i nx).2.1) ((fL_fetches Gz (upd N1 17 ((N1 17) + 1)) E1 V1 L1 X1 H1 i nx).2.2.1) ((fL_fetches Gz (upd N1 17 ((N1 17) + 1)) E1 V1 L1 X1 H1 i nx).2.2.2.1) ((fL_fetches Gz (upd N1 17 ((N1 17) + 1)) E1 V1 L1 X1 H1 i nx).2.2.2.2.1) ((fL_fetches Gz (upd N1 17 ((N1 17) + 1)) E1 V1 L1 X1 H1 i nx).2.2.2.2.2) U En
            else
              fL_resolves_L41 Gz Gn Ge Gv Gl Gx Gh i x2 n (a + 1) mn (-2) ((-1) - (((fL_fetches Gz (upd N1 17 ((N1 17) + 1)) E1 V1 L1 X1 H1 i nx).2.2.1) ((fL_slot ((fL_fetches Gz (upd N1 17 ((N1 17) + 1)) E1 V1 L1 X1 H1 i nx).2.1) i nx).toNatClampNeg))) 1 ((fL_fetches Gz (upd N1 17 ((N1 17) + 1)) E1 V1 L1 X1 H1 i nx).1) ((fL_fetches Gz (upd N1 17 ((N1 17) + 1)) E1 V1 L1 X1 H1 i nx).2.1) ((fL_fetches Gz (upd N1 17 ((N1 17) + 1)) E1 V1 L1 X1 H1 i nx).2.2.1) ((fL_fetches Gz (upd N1 17 ((N1 17) + 1)) E1 V1 L1 X1 H1 i nx).2.2.2.1) ((fL_fetches Gz (upd N1 17 ((N1 17) + 1)) E1 V1 L1 X1 H1 i nx).2.2.2.2.1) ((fL_fetches Gz (upd N1 17 ((N1 17) + 1)) E1 V1 L1 X1 H1 i nx).2.2.2.2.2) U En
        else
          fL_resolves_L41 Gz Gn Ge Gv Gl Gx Gh i x2 n (a + 1) mn (-2) nx 0 (upd N1 17 ((N1 17) + 1)) E1 V1 L1 X1 H1 U En
      else
        if (X1 ((fL_slot E1 i nx).toNatClampNeg)) ≤ (N1 0) then
          if (N1 2) = 1 then
            if (fL_slot ((fL_fetches Gz (upd N1 17 ((N1 17) + 1)) E1 V1 L1 X1 H1 i nx).2.1) i nx) < 0 then
              fL_resolves_L41 Gz Gn Ge Gv Gl Gx Gh i x2 n (a + 1) mn (-2) nx 0 ((fL_fetches Gz (upd N1 17 ((N1 17) + 1)) E1 V1 L1 X1 H1 i nx).1) ((fL_fetches Gz (upd N1 17 ((N1 17) + 1)) E1 V1 L1 X1 H1 i nx).2.1) ((fL_fetches Gz (upd N1 17 ((N1 17) + 1)) E1 V1 L1 X1 H1 i nx).2.2.1) ((fL_fetches Gz (upd N1 17 ((N1 17) + 1)) E1 V1 L1 X1 H1 i nx).2.2.2.1) ((fL_fetches Gz (upd N1 17 ((N1 17) + 1)) E1 V1 L1 X1 H1 i nx).2.2.2.2.1) ((fL_fetches Gz (upd N1 17 ((N1 17) + 1)) E1 V1 L1 X1 H1 i nx).2.2.2.2.2) U En
            else
              if 0 ≤ (((fL_fetches Gz (upd N1 17 ((N1 17) + 1)) E1 V1 L1 X1 H1 i nx).2.2.1) ((fL_slot ((fL_fetches Gz (upd N1 17 ((N1 17) + 1)) E1 V1 L1 X1 H1 i nx).2.1) i nx).toNatClampNeg)) then
                if (((fL_fetches Gz (upd N1 17 ((N1 17) + 1)) E1 V1 L1 X1 H1 i nx).2.2.1) ((fL_slot ((fL_fetches Gz (upd N1 17 ((N1 17) + 1)) E1 V1 L1 X1 H1 i nx).2.1) i nx).toNatClampNeg)) ≤ 0 then
                  fL_resolves_L41 Gz Gn Ge Gv Gl Gx Gh i x2 n (a + 1) mn (-1) nx 0 ((fL_fetches Gz (upd N1 17 ((N1 17) + 1)) E1 V1 L1 X1 H1 i nx).1) ((fL_fetches Gz (upd N1 17 ((N1 17) + 1)) E1 V1 L1 X1 H1 i nx).2.1) ((fL_fetches Gz (upd N1 17 ((N1 17) + 1)) E1 V1 L1 X1 H1 i nx).2.2.1) ((fL_fetches Gz (upd N1 17 ((N1 17) + 1)) E1 V1 L1 X1 H1 i nx).2.2.2.1) ((fL_fetches Gz (upd N1 17 ((N1 17) + 1)) E1 V1 L1 X1 H1 i nx).2.2.2.2.1) ((fL_fetches Gz (upd N1 17 ((N1 17) + 1)) E1 V1 L1 X1 H1 i nx).2.2.2.2.2) U En
                else
                  fL_resolves_L41 Gz Gn Ge Gv Gl Gx Gh i x2 n (a + 1) mn (((fL_fetches Gz (upd N1 17 ((N1 17) + 1)) E1 V1 L1 X1 H1 i nx).2.2.1) ((fL_slot ((fL_fetches Gz (upd N1 17 ((N1 17) + 1)) E1 V1 L1 X1 H1 i nx).2.1) i nx).toNatClampNeg)) nx 0 ((fL_fetches Gz (upd N1 17 ((N1 17) + 1)) E1 V1 L1 X1 H1 i nx).1) ((fL_fetches Gz (upd N1 17 ((N1 17) + 1)) E1 V1 L1 X1 H1 i nx).2.1) ((fL_fetches Gz (upd N1 17 ((N1 17) + 1)) E1 V1 L1 X1 H1 i nx).2.2.1) ((fL_fetches Gz (upd N1 17 ((N1 17) + 1)) E1 V1 L1 X1 H1 i nx).2.2.2.1) ((fL_fetches Gz (upd N1 17 ((N1 17) + 1)) E1 V1 L1 X1 H1 i nx).2.2.2.2.1) ((fL_fetches Gz (upd N1 17 ((N1 17) + 1)) E1 V1 L1 X1 H1 i nx).2.2.2.2.2) U En
              else
                fL_resolves_L41 Gz Gn Ge Gv Gl Gx Gh i x2 n (a + 1) mn (-2) ((-1) - (((fL_fetches Gz (upd N1 17 ((N1 17) + 1)) E1 V1 L1 X1 H1 i nx).2.2.1) ((fL_slot ((fL_fetches Gz (upd N1 17 ((N1 17) + 1)) E1 V1 L1 X1 H1 i nx).2.1) i nx).toNatClampNeg))) 1 ((fL_fetches Gz (upd N1 17 ((N1 17) + 1)) E1 V1 L1 X1 H1 i nx).1) ((fL_fetches Gz (upd N1 17 ((N1 17) + 1)) E1 V1 L1 X1 H1 i nx).2.1) ((fL_fetches Gz (upd N1 17 ((N1 17) + 1)) E1 V1 L1 X1 H1 i nx).2.2.1) ((fL_fetches Gz (upd N1 17 ((N1 17) + 1)) E1 V1 L1 X1 H1 i nx).2.2.2.1) ((fL_fetches Gz (upd N1 17 ((N1 17) + 1)) E1 V1 L1 X1 H1 i nx).2.2.2.2.1) ((fL_fetches Gz (upd N1 17 ((N1 17) + 1)) E1 V1 L1 X1 H1 i nx).2.2.2.2.2) U En
          else
            if 100 ≤ ((N1 0) - (X1 ((fL_slot E1 i nx).toNatClampNeg))) then
              fL_resolves_L41 Gz Gn Ge Gv Gl Gx Gh i x2 n (a + 1) mn (-2) nx 0 (upd N1 17 ((N1 17) + 1)) E1 V1 L1 X1 H1 U En
            else
              if 0 ≤ (V1 ((fL_slot E1 i nx).toNatClampNeg)) then
                if (V1 ((fL_slot E1 i nx).toNatClampNeg)) ≤ 0 then
                  fL_resolves_L41 Gz Gn Ge Gv Gl Gx Gh i x2 n (a + 1) mn (-1) nx 0 (upd (upd N1 17 ((N1 17) + 1)) 16 1) E1 V1 L1 X1 H1 U En
                else
                  fL_resolves_L41 Gz Gn Ge Gv Gl Gx Gh i x2 n (a + 1) mn (V1 ((fL_slot E1 i nx).toNatClampNeg)) nx 0 (upd (upd N1 17 ((N1 17) + 1)) 16 1) E1 V1 L1 X1 H1 U En
              else
                fL_resolves_L41 Gz Gn Ge Gv Gl Gx Gh i x2 n (a + 1) mn (-2) ((-1) - (V1 ((fL_slot E1 i nx).toNatClampNeg))) 1 (upd (upd N1 17 ((N1 17) + 1)) 16 1) E1 V1 L1 X1 H1 U En
        else
          if 0 ≤ (V1 ((fL_slot E1 i nx).toNatClampNeg)) then
            if (V1 ((fL_slot E1 i nx).toNatClampNeg)) ≤ 0 then
              fL_resolves_L41 Gz Gn Ge Gv Gl Gx Gh i x2 n (a + 1) (mn + 1) (-1) nx 0 (upd N1 17 ((N1 17) + 1)) E1 V1 L1 X1 (upd H1 ((fL_slot E1 i nx).toNatClampNeg) ((H1 ((fL_slot E1 i nx).toNatClampNeg)) + 1)) (upd U mn.toNatClampNeg nx) (upd En mn.toNatClampNeg (X1 ((fL_slot E1 i nx).toNatClampNeg)))
            else
              fL_resolves_L41 Gz Gn Ge Gv Gl Gx Gh i x2 n (a + 1) (mn + 1) (V1 ((fL_slot E1 i nx).toNatClampNeg)) nx 0 (upd N1 17 ((N1 17) + 1)) E1 V1 L1 X1 (upd H1 ((fL_slot E1 i nx).toNatClampNeg) ((H1 ((fL_slot E1 i nx).toNatClampNeg)) + 1)) (upd U mn.toNatClampNeg nx) (upd En mn.toNatClampNeg (X1 ((fL_slot E1 i nx).toNatClampNeg)))
          else
            fL_resolves_L41 Gz Gn Ge Gv Gl Gx Gh i x2 n (a + 1) (mn + 1) (-2) ((-1) - (V1 ((fL_slot E1 i nx).toNatClampNeg))) 1 (upd N1 17 ((N1 17) + 1)) E1 V1 L1 X1 (upd H1 ((fL_slot E1 i nx).toNatClampNeg) ((H1 ((fL_slot E1 i nx).toNatClampNeg)) + 1)) (upd U mn.toNatClampNeg nx) (upd En mn.toNatClampNeg (X1 ((fL_slot E1 i nx).toNatClampNeg)))
def fL_resolves (Gz : Nat → Int32) (Gn : Nat → Int32) (Ge : Nat → Int32) (Gv : Nat → Int32) (Gl : Nat → Int32) (Gx : Nat → Int32) (Gh : Nat → Int32) (i : Nat) (x2 : Int32) : Int32 × (Nat → Int32) × (Nat → Int32) × (Nat → Int32) × (Nat → Int32) × (Nat → Int32) × (Nat → Int32) :=
  fL_resolves_L41 Gz Gn Ge Gv Gl Gx Gh i x2 5 0 0 (-2) x2 1 (upd (upd (upd Gn 16 0) 17 0) 18 0) Ge Gv Gl Gx Gh (fun _ => 0) (fun _ => 0)
theorem hwL_resolves_arrint : Cond.arrayClass .int ∈ wsL_resolves := by decide +kernel
set_option maxHeartbeats 4000000 in
set_option maxRecDepth 100000 in
theorem kL_resolves_L269 (l : Launch) (hl : l.stackTraces = false) (K : zK) (pz : Nat) (pn : Nat) (pe : Nat) (pv : Nat) (pl : Nat) (px : Nat) (ph : Nat) (Gz : Nat → Int32) (Gn : Nat → Int32) (Ge : Nat → Int32) (Gv : Nat → Int32) (Gl : Nat → Int32) (Gx : Nat → Int32) (Gh : Nat → Int32) (i : Nat) (x2 : Int32) (hi4 : i < 4) (hn : vp_in x2 16) (hz : zwz Gz) (hv : zwV Gv) {p : Program} {e : Env} {s : State} {m : MethodId} {args : Array Value} {below : List Frame} {meth : Method} {c : Code} {A : Nat → Prop} (B : zF K p l s m args meth c A cL_resolves 17 RL "resolves" wsL_resolves (some .int) []) : ∀ (n a : Nat) (qu : Nat) (qw : Nat) (mn : Int32) (an : Int32) (N1 : Nat → Int32) (E1 : Nat → Int32) (V1 : Nat → Int32) (L1 : Nat → Int32) (X1 : Nat → Int32) (H1 : Nat → Int32) (U : Nat → Int32) (En : Nat → Int32), a + n = mn.toNatClampNeg → (∃ m, m ≤ 5 ∧ mn = nI m) → (∀ t, vp_in (U t) 16) → fL_resolves Gz Gn Ge Gv Gl Gx Gh i x2 = fL_resolves_L269 Gz Gn Ge Gv Gl Gx Gh i x2 n a mn an N1 E1 V1 L1 X1 H1 U En → zW K p l e { frames := 2, cells := 2, slots := 12, locals := 53 } s m args below meth c A (vx_MQ below (zQ K A (fun _ : Unit => ((some (.int ((fL_resolves Gz Gn Ge Gv Gl Gx Gh i x2).1))), [[(pz, .inl (zI K, 32, .inl Gz))], [(pn, .inl (zI K, 20, .inl ((fL_resolves Gz Gn Ge Gv Gl Gx Gh i x2).2.1)))], [(pe, .inl (zI K, 24, .inl ((fL_resolves Gz Gn Ge Gv Gl Gx Gh i x2).2.2.1)))], [(pv, .inl (zI K, 24, .inl ((fL_resolves Gz Gn Ge Gv Gl Gx Gh i x2).2.2.2.1)))], [(pl, .inl (zI K, 24, .inl ((fL_resolves Gz Gn Ge Gv Gl Gx Gh i x2).2.2.2.2.1)))], [(px, .inl (zI K, 24, .inl ((fL_resolves Gz Gn Ge Gv Gl Gx Gh i x2).2.2.2.2.2.1)))], [(ph, .inl (zI K, 24, .inl ((fL_resolves Gz Gn Ge Gv Gl Gx Gh i x2).2.2.2.2.2.2)))]])) (fun _ => True)) (zX K A [[(pz, .inl (zI K, 32, .inl Gz))], [(pn, .inl (zI K, 20, .inl Gn))], [(pe, .inl (zI K, 24, .inl Ge))], [(pv, .inl (zI K, 24, .inl Gv))], [(pl, .inl (zI K, 24, .inl Gl))], [(px, .inl (zI K, 24, .inl Gx))], [(ph, .inl (zI K, 24, .inl Gh))]] zNo) args s 2 12 A) 2 12 [[(pz, .inl (zI K, 32, .inl Gz))], [(pn, .inl (zI K, 20, .inl N1))], [(pe, .inl (zI K, 24, .inl E1))], [(pv, .inl (zI K, 24, .inl V1))], [(pl, .inl (zI K, 24, .inl L1))], [(px, .inl (zI K, 24, .inl X1))], [(ph, .inl (zI K, 24, .inl H1))], [(qu, .inl (zI K, 6, .inl U))], [(qw, .inl (zI K, 6, .inl En))]] [(0, .ref pz), (1, .ref pn), (2, .ref pe), (3, .ref pv), (4, .ref pl), (5, .ref px), (6, .ref ph), (7, .int (nI i)), (8, .int x2), (9, .ref qu), (10, .ref qw), (11, .int mn), (12, .int an), (15, .int (nI a))] [] 269 := by
  intro n
  induction n with
  | zero =>
    intro a qu qw mn an N1 E1 V1 L1 X1 H1 U En ha hm hU hF0
    refine z_iload B dL_resolves_269 13 rfl ?_
    refine z_iload B dL_resolves_271 11 rfl ?_
    refine z_icge B 376 dL_resolves_273 (by decide) (fun _ => ?_) (fun h => absurd (by rw [z_cl (z_mx hm)]; exact (z_lge0 ha z_clt)) h)
    refine z_iload B dL_resolves_376 12 rfl ?_
    refine z_drop (bc := [[(pz, .inl (zI K, 32, .inl Gz))], [(pn, .inl (zI K, 20, .inl N1))], [(pe, .inl (zI K, 24, .inl E1))], [(pv, .inl (zI K, 24, .inl V1))], [(pl, .inl (zI K, 24, .inl L1))], [(px, .inl (zI K, 24, .inl X1))], [(ph, .inl (zI K, 24, .inl H1))]]) (br := [[(qu, .inl (zI K, 6, .inl U))], [(qw, .inl (zI K, 6, .inl En))]]) (isC := [0, 1, 2, 3, 4, 5, 6]) (isR := [7, 8]) (zsp rfl rfl rfl) ?_
    have hF : fL_resolves Gz Gn Ge Gv Gl Gx Gh i x2 = (an, N1, E1, V1, L1, X1, H1) := hF0
    exact z_ret1 B rfl dL_resolves_378 () (trivial) (Nat.le_of_ble_eq_true rfl) (Nat.le_of_ble_eq_true rfl) (by rw [hF]) (by rw [hF])
  | succ n ih =>
    intro a qu qw mn an N1 E1 V1 L1 X1 H1 U En ha hm hU hF0
    refine z_iload B dL_resolves_269 13 rfl ?_
    refine z_iload B dL_resolves_271 11 rfl ?_
    refine z_icge B 376 dL_resolves_273 (by decide) (fun h => absurd h (by rw [z_cl (z_mx hm)]; exact (z_lgeS ha z_clt))) (fun _ => ?_)
    refine z_aload_n B dL_resolves_276 2 rfl ?_
    refine z_iload B dL_resolves_277 7 rfl ?_
    refine z_aload B dL_resolves_279 9 rfl ?_
    refine z_iload B dL_resolves_281 13 rfl ?_
    refine z_ialdn B (N := 6) (f := U) (k0 := a) (v := (U a)) 7 0 rfl rfl (z_nIr (z_mr hm ha) (by decide)) (nI_clamp (Nat.lt_trans (z_mr hm ha) (by decide))) rfl dL_resolves_283 ?_
    refine z_S1 B (kL_slot l hl K pe E1 i (U a) hi4) [2] [0, 1, 3, 4, 5, 6, 7, 8] (br := [[(pz, .inl (zI K, 32, .inl Gz))], [(pn, .inl (zI K, 20, .inl N1))], [(pv, .inl (zI K, 24, .inl V1))], [(pl, .inl (zI K, 24, .inl L1))], [(px, .inl (zI K, 24, .inl X1))], [(ph, .inl (zI K, 24, .inl H1))], [(qu, .inl (zI K, 6, .inl U))], [(qw, .inl (zI K, 6, .inl En))]]) (bs' := [[(pz, .inl (zI K, 32, .inl Gz))], [(pn, .inl (zI K, 20, .inl N1))], [(pe, .inl (zI K, 24, .inl E1))], [(pv, .inl (zI K, 24, .inl V1))], [(pl, .inl (zI K, 24, .inl L1))], [(px, .inl (zI K, 24, .inl X1))], [(ph, .inl (zI K, 24, .inl H1))], [(qu, .inl (zI K, 6, .inl U))], [(qw, .inl (zI K, 6, .inl En))]]) (st := []) (nA := 3) (zsp rfl rfl rfl) (zsp rfl rfl rfl) gL_resolves_L_slot rfl (by decide +kernel) ⟨Nat.le_of_ble_eq_true rfl, Nat.le_of_ble_eq_true rfl⟩ rfl rfl (Nat.le_of_ble_eq_true rfl) ⟨Nat.le_of_ble_eq_true rfl, Nat.le_of_ble_eq_true rfl⟩ dL_resolves_284 z_noX (fun _ => ?_)
    refine z_istore B (lv' := [(16, .int (fL_slot E1 i (U a))), (0, .ref pz), (1, .ref pn), (2, .ref pe), (3, .ref pv), (4, .ref pl), (5, .ref px), (6, .ref ph), (7, .int (nI i)), (8, .int x2), (9, .ref qu), (10, .ref qw), (11, .int mn), (12, .int an), (15, .int (nI a))]) dL_resolves_287 (by decide) rfl ?_
    refine z_aload_n B dL_resolves_289 2 rfl ?_
    refine z_iconst B (v := 2) dL_resolves_290 rfl ?_
    refine z_ialdn B (N := 20) (f := N1) (k0 := 2) (v := (N1 2)) 1 0 rfl rfl (z_vpc (k := 2) rfl (by decide)) rfl rfl dL_resolves_291 ?_
    refine z_iconst B (v := 1) dL_resolves_292 rfl ?_
    refine z_icne B 370 dL_resolves_293 (by decide) (fun c20 => ?_) (fun c20 => ?_)
    · refine z_iload B dL_resolves_296 0 rfl ?_
      refine z_iflt B 370 dL_resolves_298 (by decide) (fun c21 => ?_) (fun c21 => ?_)
      · refine z_iinc B (v := nI (a + 1)) (lv' := [(15, .int (nI (a + 1))), (16, .int (fL_slot E1 i (U a))), (0, .ref pz), (1, .ref pn), (2, .ref pe), (3, .ref pv), (4, .ref pl), (5, .ref px), (6, .ref ph), (7, .int (nI i)), (8, .int x2), (9, .ref qu), (10, .ref qw), (11, .int mn), (12, .int an)]) dL_resolves_370 14 rfl (nI_1 a) (by decide) rfl ?_
        refine z_goto B (tgt := 269) dL_resolves_373 (by decide) ?_
        refine z_lsub [2, 3, 4, 5, 6, 7, 8, 9, 10, 11, 12, 13, 14, 0] rfl ?_
        have hF : fL_resolves Gz Gn Ge Gv Gl Gx Gh i x2 = fL_resolves_L269 Gz Gn Ge Gv Gl Gx Gh i x2 n (a + 1) mn an N1 E1 V1 L1 X1 H1 U En := (hF0).trans ((if_pos c20).trans (if_pos c21))
        exact ih (a + 1) qu qw mn an N1 E1 V1 L1 X1 H1 U En (by omega) hm hU hF
      · refine z_aload B dL_resolves_301 6 rfl ?_
        refine z_iload B dL_resolves_303 0 rfl ?_
        refine z_ialdn B (N := 24) (f := X1) (k0 := (fL_slot E1 i (U a)).toNatClampNeg) (v := (X1 ((fL_slot E1 i (U a)).toNatClampNeg))) 5 0 rfl rfl (z_ofN (z_slO hi4) c21) rfl rfl dL_resolves_305 ?_
        refine z_aload B dL_resolves_306 11 rfl ?_
        refine z_iload B dL_resolves_308 14 rfl ?_
        refine z_ialdn B (N := 6) (f := En) (k0 := a) (v := (En a)) 8 0 rfl rfl (z_nIr (z_mr hm ha) (by decide)) (nI_clamp (Nat.lt_trans (z_mr hm ha) (by decide))) rfl dL_resolves_310 ?_
        refine z_icne B 370 dL_resolves_311 (by decide) (fun c22 => ?_) (fun c22 => ?_)
        · refine z_aload B dL_resolves_314 7 rfl ?_
          refine z_iload B dL_resolves_316 0 rfl ?_
          refine z_ialdn B (N := 24) (f := H1) (k0 := (fL_slot E1 i (U a)).toNatClampNeg) (v := (H1 ((fL_slot E1 i (U a)).toNatClampNeg))) 6 0 rfl rfl (z_ofN (z_slO hi4) c21) rfl rfl dL_resolves_318 ?_
          refine z_iconst B (v := 2) dL_resolves_319 rfl ?_
          refine z_icle B 370 dL_resolves_320 (by decide) (fun c23 => ?_) (fun c23 => ?_)
          · refine z_iinc B (v := nI (a + 1)) (lv' := [(15, .int (nI (a + 1))), (16, .int (fL_slot E1 i (U a))), (0, .ref pz), (1, .ref pn), (2, .ref pe), (3, .ref pv), (4, .ref pl), (5, .ref px), (6, .ref ph), (7, .int (nI i)), (8, .int x2), (9, .ref qu), (10, .ref qw), (11, .int mn), (12, .int an)]) dL_resolves_370 14 rfl (nI_1 a) (by decide) rfl ?_
            refine z_goto B (tgt := 269) dL_resolves_373 (by decide) ?_
            refine z_lsub [2, 3, 4, 5, 6, 7, 8, 9, 10, 11, 12, 13, 14, 0] rfl ?_
            have hF : fL_resolves Gz Gn Ge Gv Gl Gx Gh i x2 = fL_resolves_L269 Gz Gn Ge Gv Gl Gx Gh i x2 n (a + 1) mn an N1 E1 V1 L1 X1 H1 U En := (hF0).trans ((if_pos c20).trans ((if_neg c21).trans ((if_pos c22).trans (if_pos c23))))
            exact ih (a + 1) qu qw mn an N1 E1 V1 L1 X1 H1 U En (by omega) hm hU hF
          · refine z_iconst B (v := 4) dL_resolves_323 rfl ?_
            refine z_aload B dL_resolves_324 6 rfl ?_
            refine z_iload B dL_resolves_326 0 rfl ?_
            refine z_ialdn B (N := 24) (f := X1) (k0 := (fL_slot E1 i (U a)).toNatClampNeg) (v := (X1 ((fL_slot E1 i (U a)).toNatClampNeg))) 5 0 rfl rfl (z_ofN (z_slO hi4) c21) rfl rfl dL_resolves_328 ?_
            refine z_aload_n B dL_resolves_329 2 rfl ?_
            refine z_iconst B (v := 0) dL_resolves_330 rfl ?_
            refine z_ialdn B (N := 20) (f := N1) (k0 := 0) (v := (N1 0)) 1 0 rfl rfl (z_vpc (k := 0) rfl (by decide)) rfl rfl dL_resolves_331 ?_
            refine z_isub B dL_resolves_332 ?_
            refine z_imul B dL_resolves_333 ?_
            refine z_aload B dL_resolves_334 5 rfl ?_
            refine z_iload B dL_resolves_336 0 rfl ?_
            refine z_ialdn B (N := 24) (f := L1) (k0 := (fL_slot E1 i (U a)).toNatClampNeg) (v := (L1 ((fL_slot E1 i (U a)).toNatClampNeg))) 4 0 rfl rfl (z_ofN (z_slO hi4) c21) rfl rfl dL_resolves_338 ?_
            refine z_icgt B 370 dL_resolves_339 (by decide) (fun c24 => ?_) (fun c24 => ?_)
            · refine z_iinc B (v := nI (a + 1)) (lv' := [(15, .int (nI (a + 1))), (16, .int (fL_slot E1 i (U a))), (0, .ref pz), (1, .ref pn), (2, .ref pe), (3, .ref pv), (4, .ref pl), (5, .ref px), (6, .ref ph), (7, .int (nI i)), (8, .int x2), (9, .ref qu), (10, .ref qw), (11, .int mn), (12, .int an)]) dL_resolves_370 14 rfl (nI_1 a) (by decide) rfl ?_
              refine z_goto B (tgt := 269) dL_resolves_373 (by decide) ?_
              refine z_lsub [2, 3, 4, 5, 6, 7, 8, 9, 10, 11, 12, 13, 14, 0] rfl ?_
              have hF : fL_resolves Gz Gn Ge Gv Gl Gx Gh i x2 = fL_resolves_L269 Gz Gn Ge Gv Gl Gx Gh i x2 n (a + 1) mn an N1 E1 V1 L1 X1 H1 U En := (hF0).trans ((if_pos c20).trans ((if_neg c21).trans ((if_pos c22).trans ((if_neg c23).trans (if_pos c24)))))
              exact ih (a + 1) qu qw mn an N1 E1 V1 L1 X1 H1 U En (by omega) hm hU hF
            · refine z_aload_n B dL_resolves_342 1 rfl ?_
              refine z_aload_n B dL_resolves_343 2 rfl ?_
              refine z_aload_n B dL_resolves_344 3 rfl ?_
              refine z_aload_n B dL_resolves_345 4 rfl ?_
              refine z_aload B dL_resolves_346 5 rfl ?_
              refine z_aload B dL_resolves_348 6 rfl ?_
              refine z_aload B dL_resolves_350 7 rfl ?_
              refine z_iload B dL_resolves_352 8 rfl ?_
              refine z_aload B dL_resolves_354 10 rfl ?_
              refine z_iload B dL_resolves_356 14 rfl ?_
              refine z_ialdn B (N := 6) (f := U) (k0 := a) (v := (U a)) 7 0 rfl rfl (z_nIr (z_mr hm ha) (by decide)) (nI_clamp (Nat.lt_trans (z_mr hm ha) (by decide))) rfl dL_resolves_358 ?_
              refine z_S0 B (kL_fetches l hl K pz pn pe pv pl px ph Gz N1 E1 V1 L1 X1 H1 i (U a) hi4 (hU _)) [0, 1, 2, 3, 4, 5, 6] [7, 8] (br := [[(qu, .inl (zI K, 6, .inl U))], [(qw, .inl (zI K, 6, .inl En))]]) (bs' := [[(pz, .inl (zI K, 32, .inl Gz))], [(pn, .inl (zI K, 20, .inl ((fL_fetches Gz N1 E1 V1 L1 X1 H1 i (U a)).1)))], [(pe, .inl (zI K, 24, .inl ((fL_fetches Gz N1 E1 V1 L1 X1 H1 i (U a)).2.1)))], [(pv, .inl (zI K, 24, .inl ((fL_fetches Gz N1 E1 V1 L1 X1 H1 i (U a)).2.2.1)))], [(pl, .inl (zI K, 24, .inl ((fL_fetches Gz N1 E1 V1 L1 X1 H1 i (U a)).2.2.2.1)))], [(px, .inl (zI K, 24, .inl ((fL_fetches Gz N1 E1 V1 L1 X1 H1 i (U a)).2.2.2.2.1)))], [(ph, .inl (zI K, 24, .inl ((fL_fetches Gz N1 E1 V1 L1 X1 H1 i (U a)).2.2.2.2.2)))], [(qu, .inl (zI K, 6, .inl U))], [(qw, .inl (zI K, 6, .inl En))]]) (st := []) (nA := 9) (zsp rfl rfl rfl) (zsp rfl rfl rfl) gL_resolves_L_fetches rfl (by decide +kernel) ⟨Nat.le_of_ble_eq_true rfl, Nat.le_of_ble_eq_true rfl⟩ rfl rfl (Nat.le_of_ble_eq_true rfl) ⟨Nat.le_of_ble_eq_true rfl, Nat.le_of_ble_eq_true rfl⟩ dL_resolves_359 z_noX (fun _ => ?_)
              refine z_aload_n B dL_resolves_362 2 rfl ?_
              refine z_bipush B (v := 12) dL_resolves_363 rfl ?_
              refine z_dup2 B dL_resolves_365 rfl rfl ?_
              refine z_ialdn B (N := 20) (f := ((fL_fetches Gz N1 E1 V1 L1 X1 H1 i (U a)).1)) (k0 := 12) (v := (((fL_fetches Gz N1 E1 V1 L1 X1 H1 i (U a)).1) 12)) 1 0 rfl rfl (z_vpc (k := 12) rfl (by decide)) rfl rfl dL_resolves_366 ?_
              refine z_iconst B (v := 1) dL_resolves_367 rfl ?_
              refine z_iadd B dL_resolves_368 ?_
              refine z_iastn B (N := 20) (f := ((fL_fetches Gz N1 E1 V1 L1 X1 H1 i (U a)).1)) (k0 := 12) 1 0 rfl rfl (z_vpc (k := 12) rfl (by decide)) rfl (bs' := [[(pz, .inl (zI K, 32, .inl Gz))], [(pn, .inl (zI K, 20, .inl (upd ((fL_fetches Gz N1 E1 V1 L1 X1 H1 i (U a)).1) 12 ((((fL_fetches Gz N1 E1 V1 L1 X1 H1 i (U a)).1) 12) + 1))))], [(pe, .inl (zI K, 24, .inl ((fL_fetches Gz N1 E1 V1 L1 X1 H1 i (U a)).2.1)))], [(pv, .inl (zI K, 24, .inl ((fL_fetches Gz N1 E1 V1 L1 X1 H1 i (U a)).2.2.1)))], [(pl, .inl (zI K, 24, .inl ((fL_fetches Gz N1 E1 V1 L1 X1 H1 i (U a)).2.2.2.1)))], [(px, .inl (zI K, 24, .inl ((fL_fetches Gz N1 E1 V1 L1 X1 H1 i (U a)).2.2.2.2.1)))], [(ph, .inl (zI K, 24, .inl ((fL_fetches Gz N1 E1 V1 L1 X1 H1 i (U a)).2.2.2.2.2)))], [(qu, .inl (zI K, 6, .inl U))], [(qw, .inl (zI K, 6, .inl En))]]) rfl dL_resolves_369 ?_
              refine z_iinc B (v := nI (a + 1)) (lv' := [(15, .int (nI (a + 1))), (16, .int (fL_slot E1 i (U a))), (0, .ref pz), (1, .ref pn), (2, .ref pe), (3, .ref pv), (4, .ref pl), (5, .ref px), (6, .ref ph), (7, .int (nI i)), (8, .int x2), (9, .ref qu), (10, .ref qw), (11, .int mn), (12, .int an)]) dL_resolves_370 14 rfl (nI_1 a) (by decide) rfl ?_
              refine z_goto B (tgt := 269) dL_resolves_373 (by decide) ?_
              refine z_lsub [2, 3, 4, 5, 6, 7, 8, 9, 10, 11, 12, 13, 14, 0] rfl ?_
              have hF : fL_resolves Gz Gn Ge Gv Gl Gx Gh i x2 = fL_resolves_L269 Gz Gn Ge Gv Gl Gx Gh i x2 n (a + 1) mn an (upd ((fL_fetches Gz N1 E1 V1 L1 X1 H1 i (U a)).1) 12 ((((fL_fetches Gz N1 E1 V1 L1 X1 H1 i (U a)).1) 12) + 1)) ((fL_fetches Gz N1 E1 V1 L1 X1 H1 i (U a)).2.1) ((fL_fetches Gz N1 E1 V1 L1 X1 H1 i (U a)).2.2.1) ((fL_fetches Gz N1 E1 V1 L1 X1 H1 i (U a)).2.2.2.1) ((fL_fetches Gz N1 E1 V1 L1 X1 H1 i (U a)).2.2.2.2.1) ((fL_fetches Gz N1 E1 V1 L1 X1 H1 i (U a)).2.2.2.2.2) U En := (hF0).trans ((if_pos c20).trans ((if_neg c21).trans ((if_pos c22).trans ((if_neg c23).trans (if_neg c24)))))
              exact ih (a + 1) qu qw mn an (upd ((fL_fetches Gz N1 E1 V1 L1 X1 H1 i (U a)).1) 12 ((((fL_fetches Gz N1 E1 V1 L1 X1 H1 i (U a)).1) 12) + 1)) ((fL_fetches Gz N1 E1 V1 L1 X1 H1 i (U a)).2.1) ((fL_fetches Gz N1 E1 V1 L1 X1 H1 i (U a)).2.2.1) ((fL_fetches Gz N1 E1 V1 L1 X1 H1 i (U a)).2.2.2.1) ((fL_fetches Gz N1 E1 V1 L1 X1 H1 i (U a)).2.2.2.2.1) ((fL_fetches Gz N1 E1 V1 L1 X1 H1 i (U a)).2.2.2.2.2) U En (by omega) hm hU hF
        · refine z_iinc B (v := nI (a + 1)) (lv' := [(15, .int (nI (a + 1))), (16, .int (fL_slot E1 i (U a))), (0, .ref pz), (1, .ref pn), (2, .ref pe), (3, .ref pv), (4, .ref pl), (5, .ref px), (6, .ref ph), (7, .int (nI i)), (8, .int x2), (9, .ref qu), (10, .ref qw), (11, .int mn), (12, .int an)]) dL_resolves_370 14 rfl (nI_1 a) (by decide) rfl ?_
          refine z_goto B (tgt := 269) dL_resolves_373 (by decide) ?_
          refine z_lsub [2, 3, 4, 5, 6, 7, 8, 9, 10, 11, 12, 13, 14, 0] rfl ?_
          have hF : fL_resolves Gz Gn Ge Gv Gl Gx Gh i x2 = fL_resolves_L269 Gz Gn Ge Gv Gl Gx Gh i x2 n (a + 1) mn an N1 E1 V1 L1 X1 H1 U En := (hF0).trans ((if_pos c20).trans ((if_neg c21).trans (if_neg c22)))
          exact ih (a + 1) qu qw mn an N1 E1 V1 L1 X1 H1 U En (by omega) hm hU hF
    · refine z_iinc B (v := nI (a + 1)) (lv' := [(15, .int (nI (a + 1))), (16, .int (fL_slot E1 i (U a))), (0, .ref pz), (1, .ref pn), (2, .ref pe), (3, .ref pv), (4, .ref pl), (5, .ref px), (6, .ref ph), (7, .int (nI i)), (8, .int x2), (9, .ref qu), (10, .ref qw), (11, .int mn), (12, .int an)]) dL_resolves_370 14 rfl (nI_1 a) (by decide) rfl ?_
      refine z_goto B (tgt := 269) dL_resolves_373 (by decide) ?_
      refine z_lsub [2, 3, 4, 5, 6, 7, 8, 9, 10, 11, 12, 13, 14, 0] rfl ?_
      have hF : fL_resolves Gz Gn Ge Gv Gl Gx Gh i x2 = fL_resolves_L269 Gz Gn Ge Gv Gl Gx Gh i x2 n (a + 1) mn an N1 E1 V1 L1 X1 H1 U En := (hF0).trans (if_neg c20)
      exact ih (a + 1) qu qw mn an N1 E1 V1 L1 X1 H1 U En (by omega) hm hU hF
set_option maxHeartbeats 4000000 in
set_option maxRecDepth 100000 in
theorem kL_resolves_L41 (l : Launch) (hl : l.stackTraces = false) (K : zK) (pz : Nat) (pn : Nat) (pe : Nat) (pv : Nat) (pl : Nat) (px : Nat) (ph : Nat) (Gz : Nat → Int32) (Gn : Nat → Int32) (Ge : Nat → Int32) (Gv : Nat → Int32) (Gl : Nat → Int32) (Gx : Nat → Int32) (Gh : Nat → Int32) (i : Nat) (x2 : Int32) (hi4 : i < 4) (hn : vp_in x2 16) (hz : zwz Gz) (hv : zwV Gv) {p : Program} {e : Env} {s : State} {m : MethodId} {args : Array Value} {below : List Frame} {meth : Method} {c : Code} {A : Nat → Prop} (B : zF K p l s m args meth c A cL_resolves 17 RL "resolves" wsL_resolves (some .int) []) : ∀ (n a : Nat) (qu : Nat) (qw : Nat) (mn : Int32) (an : Int32) (nx : Int32) (go : Int32) (N1 : Nat → Int32) (E1 : Nat → Int32) (V1 : Nat → Int32) (L1 : Nat → Int32) (X1 : Nat → Int32) (H1 : Nat → Int32) (U : Nat → Int32) (En : Nat → Int32), a + n = 5 → ((N1 17) = nI a) → (vp_in nx 16) → (zwV V1) → (∃ m, m ≤ a ∧ mn = nI m) → (∀ t, vp_in (U t) 16) → fL_resolves Gz Gn Ge Gv Gl Gx Gh i x2 = fL_resolves_L41 Gz Gn Ge Gv Gl Gx Gh i x2 n a mn an nx go N1 E1 V1 L1 X1 H1 U En → zW K p l e { frames := 2, cells := 2, slots := 12, locals := 53 } s m args below meth c A (vx_MQ below (zQ K A (fun _ : Unit => ((some (.int ((fL_resolves Gz Gn Ge Gv Gl Gx Gh i x2).1))), [[(pz, .inl (zI K, 32, .inl Gz))], [(pn, .inl (zI K, 20, .inl ((fL_resolves Gz Gn Ge Gv Gl Gx Gh i x2).2.1)))], [(pe, .inl (zI K, 24, .inl ((fL_resolves Gz Gn Ge Gv Gl Gx Gh i x2).2.2.1)))], [(pv, .inl (zI K, 24, .inl ((fL_resolves Gz Gn Ge Gv Gl Gx Gh i x2).2.2.2.1)))], [(pl, .inl (zI K, 24, .inl ((fL_resolves Gz Gn Ge Gv Gl Gx Gh i x2).2.2.2.2.1)))], [(px, .inl (zI K, 24, .inl ((fL_resolves Gz Gn Ge Gv Gl Gx Gh i x2).2.2.2.2.2.1)))], [(ph, .inl (zI K, 24, .inl ((fL_resolves Gz Gn Ge Gv Gl Gx Gh i x2).2.2.2.2.2.2)))]])) (fun _ => True)) (zX K A [[(pz, .inl (zI K, 32, .inl Gz))], [(pn, .inl (zI K, 20, .inl Gn))], [(pe, .inl (zI K, 24, .inl Ge))], [(pv, .inl (zI K, 24, .inl Gv))], [(pl, .inl (zI K, 24, .inl Gl))], [(px, .inl (zI K, 24, .inl Gx))], [(ph, .inl (zI K, 24, .inl Gh))]] zNo) args s 2 12 A) 2 12 [[(pz, .inl (zI K, 32, .inl Gz))], [(pn, .inl (zI K, 20, .inl N1))], [(pe, .inl (zI K, 24, .inl E1))], [(pv, .inl (zI K, 24, .inl V1))], [(pl, .inl (zI K, 24, .inl L1))], [(px, .inl (zI K, 24, .inl X1))], [(ph, .inl (zI K, 24, .inl H1))], [(qu, .inl (zI K, 6, .inl U))], [(qw, .inl (zI K, 6, .inl En))]] [(0, .ref pz), (1, .ref pn), (2, .ref pe), (3, .ref pv), (4, .ref pl), (5, .ref px), (6, .ref ph), (7, .int (nI i)), (8, .int x2), (9, .ref qu), (10, .ref qw), (11, .int mn), (12, .int an), (13, .int nx), (14, .int go)] [] 41 := by
  intro n
  induction n with
  | zero =>
    intro a qu qw mn an nx go N1 E1 V1 L1 X1 H1 U En ha hc hnx hV hm hU hF0
    refine z_iload B dL_resolves_41 14 rfl ?_
    refine z_ifeq B 266 dL_resolves_43 (by decide) (fun c3 => ?_) (fun c3 => ?_)
    · refine z_iconst B (v := 0) dL_resolves_266 rfl ?_
      refine z_istore B (lv' := [(15, .int 0), (0, .ref pz), (1, .ref pn), (2, .ref pe), (3, .ref pv), (4, .ref pl), (5, .ref px), (6, .ref ph), (7, .int (nI i)), (8, .int x2), (9, .ref qu), (10, .ref qw), (11, .int mn), (12, .int an), (13, .int nx), (14, .int go)]) dL_resolves_267 (by decide) rfl ?_
      refine z_lsub [1, 2, 3, 4, 5, 6, 7, 8, 9, 10, 11, 12, 13, 0] rfl ?_
      have hF : fL_resolves Gz Gn Ge Gv Gl Gx Gh i x2 = fL_resolves_L269 Gz Gn Ge Gv Gl Gx Gh i x2 mn.toNatClampNeg 0 mn an N1 E1 V1 L1 X1 H1 U En := (hF0).trans (if_pos c3)
      exact kL_resolves_L269 l hl K pz pn pe pv pl px ph Gz Gn Ge Gv Gl Gx Gh i x2 hi4 hn hz hv B mn.toNatClampNeg 0 qu qw mn an N1 E1 V1 L1 X1 H1 U En (by omega) (z_mL hm (by omega)) hU hF
    · refine z_aload_n B dL_resolves_46 1 rfl ?_
      refine z_bipush B (v := 17) dL_resolves_47 rfl ?_
      refine z_ialdn B (N := 20) (f := N1) (k0 := 17) (v := (N1 17)) 1 0 rfl rfl (z_vpc (k := 17) rfl (by decide)) rfl rfl dL_resolves_49 ?_
      refine z_iconst B (v := 5) dL_resolves_50 rfl ?_
      refine z_icge B 266 dL_resolves_51 (by decide) (fun _ => ?_) (fun h => absurd (by rw [hc]; exact z_lge0 ha (by decide)) h)
      refine z_iconst B (v := 0) dL_resolves_266 rfl ?_
      refine z_istore B (lv' := [(15, .int 0), (0, .ref pz), (1, .ref pn), (2, .ref pe), (3, .ref pv), (4, .ref pl), (5, .ref px), (6, .ref ph), (7, .int (nI i)), (8, .int x2), (9, .ref qu), (10, .ref qw), (11, .int mn), (12, .int an), (13, .int nx), (14, .int go)]) dL_resolves_267 (by decide) rfl ?_
      refine z_lsub [1, 2, 3, 4, 5, 6, 7, 8, 9, 10, 11, 12, 13, 0] rfl ?_
      have hF : fL_resolves Gz Gn Ge Gv Gl Gx Gh i x2 = fL_resolves_L269 Gz Gn Ge Gv Gl Gx Gh i x2 mn.toNatClampNeg 0 mn an N1 E1 V1 L1 X1 H1 U En := (hF0).trans (if_neg c3)
      exact kL_resolves_L269 l hl K pz pn pe pv pl px ph Gz Gn Ge Gv Gl Gx Gh i x2 hi4 hn hz hv B mn.toNatClampNeg 0 qu qw mn an N1 E1 V1 L1 X1 H1 U En (by omega) (z_mL hm (by omega)) hU hF
  | succ n ih =>
    intro a qu qw mn an nx go N1 E1 V1 L1 X1 H1 U En ha hc hnx hV hm hU hF0
    refine z_iload B dL_resolves_41 14 rfl ?_
    refine z_ifeq B 266 dL_resolves_43 (by decide) (fun c4 => ?_) (fun c4 => ?_)
    · refine z_iconst B (v := 0) dL_resolves_266 rfl ?_
      refine z_istore B (lv' := [(15, .int 0), (0, .ref pz), (1, .ref pn), (2, .ref pe), (3, .ref pv), (4, .ref pl), (5, .ref px), (6, .ref ph), (7, .int (nI i)), (8, .int x2), (9, .ref qu), (10, .ref qw), (11, .int mn), (12, .int an), (13, .int nx), (14, .int go)]) dL_resolves_267 (by decide) rfl ?_
      refine z_lsub [1, 2, 3, 4, 5, 6, 7, 8, 9, 10, 11, 12, 13, 0] rfl ?_
      have hF : fL_resolves Gz Gn Ge Gv Gl Gx Gh i x2 = fL_resolves_L269 Gz Gn Ge Gv Gl Gx Gh i x2 mn.toNatClampNeg 0 mn an N1 E1 V1 L1 X1 H1 U En := (hF0).trans (if_pos c4)
      exact kL_resolves_L269 l hl K pz pn pe pv pl px ph Gz Gn Ge Gv Gl Gx Gh i x2 hi4 hn hz hv B mn.toNatClampNeg 0 qu qw mn an N1 E1 V1 L1 X1 H1 U En (by omega) (z_mL hm (by omega)) hU hF
    · refine z_aload_n B dL_resolves_46 1 rfl ?_
      refine z_bipush B (v := 17) dL_resolves_47 rfl ?_
      refine z_ialdn B (N := 20) (f := N1) (k0 := 17) (v := (N1 17)) 1 0 rfl rfl (z_vpc (k := 17) rfl (by decide)) rfl rfl dL_resolves_49 ?_
      refine z_iconst B (v := 5) dL_resolves_50 rfl ?_
      refine z_icge B 266 dL_resolves_51 (by decide) (fun h => absurd h (by rw [hc]; exact z_lgeS ha (by decide))) (fun _ => ?_)
      refine z_aload_n B dL_resolves_54 1 rfl ?_
      refine z_bipush B (v := 17) dL_resolves_55 rfl ?_
      refine z_dup2 B dL_resolves_57 rfl rfl ?_
      refine z_ialdn B (N := 20) (f := N1) (k0 := 17) (v := (N1 17)) 1 0 rfl rfl (z_vpc (k := 17) rfl (by decide)) rfl rfl dL_resolves_58 ?_
      refine z_iconst B (v := 1) dL_resolves_59 rfl ?_
      refine z_iadd B dL_resolves_60 ?_
      refine z_iastn B (N := 20) (f := N1) (k0 := 17) 1 0 rfl rfl (z_vpc (k := 17) rfl (by decide)) rfl (bs' := [[(pz, .inl (zI K, 32, .inl Gz))], [(pn, .inl (zI K, 20, .inl (upd N1 17 ((N1 17) + 1))))], [(pe, .inl (zI K, 24, .inl E1))], [(pv, .inl (zI K, 24, .inl V1))], [(pl, .inl (zI K, 24, .inl L1))], [(px, .inl (zI K, 24, .inl X1))], [(ph, .inl (zI K, 24, .inl H1))], [(qu, .inl (zI K, 6, .inl U))], [(qw, .inl (zI K, 6, .inl En))]]) rfl dL_resolves_61 ?_
      refine z_aload_n B dL_resolves_62 2 rfl ?_
      refine z_iload B dL_resolves_63 7 rfl ?_
      refine z_iload B dL_resolves_65 13 rfl ?_
      refine z_S1 B (kL_slot l hl K pe E1 i nx hi4) [2] [0, 1, 3, 4, 5, 6, 7, 8] (br := [[(pz, .inl (zI K, 32, .inl Gz))], [(pn, .inl (zI K, 20, .inl (upd N1 17 ((N1 17) + 1))))], [(pv, .inl (zI K, 24, .inl V1))], [(pl, .inl (zI K, 24, .inl L1))], [(px, .inl (zI K, 24, .inl X1))], [(ph, .inl (zI K, 24, .inl H1))], [(qu, .inl (zI K, 6, .inl U))], [(qw, .inl (zI K, 6, .inl En))]]) (bs' := [[(pz, .inl (zI K, 32, .inl Gz))], [(pn, .inl (zI K, 20, .inl (upd N1 17 ((N1 17) + 1))))], [(pe, .inl (zI K, 24, .inl E1))], [(pv, .inl (zI K, 24, .inl V1))], [(pl, .inl (zI K, 24, .inl L1))], [(px, .inl (zI K, 24, .inl X1))], [(ph, .inl (zI K, 24, .inl H1))], [(qu, .inl (zI K, 6, .inl U))], [(qw, .inl (zI K, 6, .inl En))]]) (st := []) (nA := 3) (zsp rfl rfl rfl) (zsp rfl rfl rfl) gL_resolves_L_slot rfl (by decide +kernel) ⟨Nat.le_of_ble_eq_true rfl, Nat.le_of_ble_eq_true rfl⟩ rfl rfl (Nat.le_of_ble_eq_true rfl) ⟨Nat.le_of_ble_eq_true rfl, Nat.le_of_ble_eq_true rfl⟩ dL_resolves_67 z_noX (fun _ => ?_)
      refine z_istore B (lv' := [(15, .int (fL_slot E1 i nx)), (0, .ref pz), (1, .ref pn), (2, .ref pe), (3, .ref pv), (4, .ref pl), (5, .ref px), (6, .ref ph), (7, .int (nI i)), (8, .int x2), (9, .ref qu), (10, .ref qw), (11, .int mn), (12, .int an), (13, .int nx), (14, .int go)]) dL_resolves_70 (by decide) rfl ?_
      refine z_iload B dL_resolves_72 0 rfl ?_
      refine z_iflt B 120 dL_resolves_74 (by decide) (fun c5 => ?_) (fun c5 => ?_)
      · refine z_aload_n B dL_resolves_120 2 rfl ?_
        refine z_iconst B (v := 2) dL_resolves_121 rfl ?_
        refine z_ialdn B (N := 20) (f := (upd N1 17 ((N1 17) + 1))) (k0 := 2) (v := (N1 2)) 1 0 rfl rfl (z_vpc (k := 2) rfl (by decide)) rfl rfl dL_resolves_122 ?_
        refine z_iconst B (v := 1) dL_resolves_123 rfl ?_
        refine z_icne B 157 dL_resolves_124 (by decide) (fun c6 => ?_) (fun c6 => ?_)
        · refine z_aload_n B dL_resolves_127 1 rfl ?_
          refine z_aload_n B dL_resolves_128 2 rfl ?_
          refine z_aload_n B dL_resolves_129 3 rfl ?_
          refine z_aload_n B dL_resolves_130 4 rfl ?_
          refine z_aload B dL_resolves_131 5 rfl ?_
          refine z_aload B dL_resolves_133 6 rfl ?_
          refine z_aload B dL_resolves_135 7 rfl ?_
          refine z_iload B dL_resolves_137 8 rfl ?_
          refine z_iload B dL_resolves_139 14 rfl ?_
          refine z_S0 B (kL_fetches l hl K pz pn pe pv pl px ph Gz (upd N1 17 ((N1 17) + 1)) E1 V1 L1 X1 H1 i nx hi4 hnx) [0, 1, 2, 3, 4, 5, 6] [7, 8] (br := [[(qu, .inl (zI K, 6, .inl U))], [(qw, .inl (zI K, 6, .inl En))]]) (bs' := [[(pz, .inl (zI K, 32, .inl Gz))], [(pn, .inl (zI K, 20, .inl ((fL_fetches Gz (upd N1 17 ((N1 17) + 1)) E1 V1 L1 X1 H1 i nx).1)))], [(pe, .inl (zI K, 24, .inl ((fL_fetches Gz (upd N1 17 ((N1 17) + 1)) E1 V1 L1 X1 H1 i nx).2.1)))], [(pv, .inl (zI K, 24, .inl ((fL_fetches Gz (upd N1 17 ((N1 17) + 1)) E1 V1 L1 X1 H1 i nx).2.2.1)))], [(pl, .inl (zI K, 24, .inl ((fL_fetches Gz (upd N1 17 ((N1 17) + 1)) E1 V1 L1 X1 H1 i nx).2.2.2.1)))], [(px, .inl (zI K, 24, .inl ((fL_fetches Gz (upd N1 17 ((N1 17) + 1)) E1 V1 L1 X1 H1 i nx).2.2.2.2.1)))], [(ph, .inl (zI K, 24, .inl ((fL_fetches Gz (upd N1 17 ((N1 17) + 1)) E1 V1 L1 X1 H1 i nx).2.2.2.2.2)))], [(qu, .inl (zI K, 6, .inl U))], [(qw, .inl (zI K, 6, .inl En))]]) (st := []) (nA := 9) (zsp rfl rfl rfl) (zsp rfl rfl rfl) gL_resolves_L_fetches rfl (by decide +kernel) ⟨Nat.le_of_ble_eq_true rfl, Nat.le_of_ble_eq_true rfl⟩ rfl rfl (Nat.le_of_ble_eq_true rfl) ⟨Nat.le_of_ble_eq_true rfl, Nat.le_of_ble_eq_true rfl⟩ dL_resolves_141 z_noX (fun _ => ?_)
          refine z_aload_n B dL_resolves_144 3 rfl ?_
          refine z_iload B dL_resolves_145 8 rfl ?_
          refine z_iload B dL_resolves_147 14 rfl ?_
          refine z_S1 B (kL_slot l hl K pe ((fL_fetches Gz (upd N1 17 ((N1 17) + 1)) E1 V1 L1 X1 H1 i nx).2.1) i nx hi4) [2] [0, 1, 3, 4, 5, 6, 7, 8] (br := [[(pz, .inl (zI K, 32, .inl Gz))], [(pn, .inl (zI K, 20, .inl ((fL_fetches Gz (upd N1 17 ((N1 17) + 1)) E1 V1 L1 X1 H1 i nx).1)))], [(pv, .inl (zI K, 24, .inl ((fL_fetches Gz (upd N1 17 ((N1 17) + 1)) E1 V1 L1 X1 H1 i nx).2.2.1)))], [(pl, .inl (zI K, 24, .inl ((fL_fetches Gz (upd N1 17 ((N1 17) + 1)) E1 V1 L1 X1 H1 i nx).2.2.2.1)))], [(px, .inl (zI K, 24, .inl ((fL_fetches Gz (upd N1 17 ((N1 17) + 1)) E1 V1 L1 X1 H1 i nx).2.2.2.2.1)))], [(ph, .inl (zI K, 24, .inl ((fL_fetches Gz (upd N1 17 ((N1 17) + 1)) E1 V1 L1 X1 H1 i nx).2.2.2.2.2)))], [(qu, .inl (zI K, 6, .inl U))], [(qw, .inl (zI K, 6, .inl En))]]) (bs' := [[(pz, .inl (zI K, 32, .inl Gz))], [(pn, .inl (zI K, 20, .inl ((fL_fetches Gz (upd N1 17 ((N1 17) + 1)) E1 V1 L1 X1 H1 i nx).1)))], [(pe, .inl (zI K, 24, .inl ((fL_fetches Gz (upd N1 17 ((N1 17) + 1)) E1 V1 L1 X1 H1 i nx).2.1)))], [(pv, .inl (zI K, 24, .inl ((fL_fetches Gz (upd N1 17 ((N1 17) + 1)) E1 V1 L1 X1 H1 i nx).2.2.1)))], [(pl, .inl (zI K, 24, .inl ((fL_fetches Gz (upd N1 17 ((N1 17) + 1)) E1 V1 L1 X1 H1 i nx).2.2.2.1)))], [(px, .inl (zI K, 24, .inl ((fL_fetches Gz (upd N1 17 ((N1 17) + 1)) E1 V1 L1 X1 H1 i nx).2.2.2.2.1)))], [(ph, .inl (zI K, 24, .inl ((fL_fetches Gz (upd N1 17 ((N1 17) + 1)) E1 V1 L1 X1 H1 i nx).2.2.2.2.2)))], [(qu, .inl (zI K, 6, .inl U))], [(qw, .inl (zI K, 6, .inl En))]]) (st := []) (nA := 3) (zsp rfl rfl rfl) (zsp rfl rfl rfl) gL_resolves_L_slot rfl (by decide +kernel) ⟨Nat.le_of_ble_eq_true rfl, Nat.le_of_ble_eq_true rfl⟩ rfl rfl (Nat.le_of_ble_eq_true rfl) ⟨Nat.le_of_ble_eq_true rfl, Nat.le_of_ble_eq_true rfl⟩ dL_resolves_149 z_noX (fun _ => ?_)
          refine z_istore B (lv' := [(15, .int (fL_slot ((fL_fetches Gz (upd N1 17 ((N1 17) + 1)) E1 V1 L1 X1 H1 i nx).2.1) i nx)), (0, .ref pz), (1, .ref pn), (2, .ref pe), (3, .ref pv), (4, .ref pl), (5, .ref px), (6, .ref ph), (7, .int (nI i)), (8, .int x2), (9, .ref qu), (10, .ref qw), (11, .int mn), (12, .int an), (13, .int nx), (14, .int go)]) dL_resolves_152 (by decide) rfl ?_
          refine z_goto B (tgt := 187) dL_resolves_154 (by decide) ?_
          refine z_iload B dL_resolves_187 0 rfl ?_
          refine z_iflt B 203 dL_resolves_189 (by decide) (fun c7 => ?_) (fun c7 => ?_)
          · refine z_iconst B (v := 0) dL_resolves_203 rfl ?_
            refine z_istore B (lv' := [(14, .int 0), (15, .int (fL_slot ((fL_fetches Gz (upd N1 17 ((N1 17) + 1)) E1 V1 L1 X1 H1 i nx).2.1) i nx)), (0, .ref pz), (1, .ref pn), (2, .ref pe), (3, .ref pv), (4, .ref pl), (5, .ref px), (6, .ref ph), (7, .int (nI i)), (8, .int x2), (9, .ref qu), (10, .ref qw), (11, .int mn), (12, .int an), (13, .int nx)]) dL_resolves_204 (by decide) rfl ?_
            refine z_iload B dL_resolves_206 1 rfl ?_
            refine z_ifge B 216 dL_resolves_208 (by decide) (fun h => absurd h (Int32.not_le.mpr c7)) (fun _ => ?_)
            refine z_bipush B (v := (-2)) dL_resolves_211 rfl ?_
            refine z_goto B (tgt := 243) dL_resolves_213 (by decide) ?_
            refine z_istore B (lv' := [(12, .int (-2)), (14, .int 0), (15, .int (fL_slot ((fL_fetches Gz (upd N1 17 ((N1 17) + 1)) E1 V1 L1 X1 H1 i nx).2.1) i nx)), (0, .ref pz), (1, .ref pn), (2, .ref pe), (3, .ref pv), (4, .ref pl), (5, .ref px), (6, .ref ph), (7, .int (nI i)), (8, .int x2), (9, .ref qu), (10, .ref qw), (11, .int mn), (13, .int nx)]) dL_resolves_243 (by decide) rfl ?_
            refine z_iload B dL_resolves_245 1 rfl ?_
            refine z_ifeq B 259 dL_resolves_247 (by decide) (fun _ => ?_) (fun h => absurd (by decide) h)
            refine z_iload B dL_resolves_259 15 rfl ?_
            refine z_istore B (lv' := [(13, .int nx), (12, .int (-2)), (14, .int 0), (15, .int (fL_slot ((fL_fetches Gz (upd N1 17 ((N1 17) + 1)) E1 V1 L1 X1 H1 i nx).2.1) i nx)), (0, .ref pz), (1, .ref pn), (2, .ref pe), (3, .ref pv), (4, .ref pl), (5, .ref px), (6, .ref ph), (7, .int (nI i)), (8, .int x2), (9, .ref qu), (10, .ref qw), (11, .int mn)]) dL_resolves_261 (by decide) rfl ?_
            refine z_goto B (tgt := 41) dL_resolves_263 (by decide) ?_
            refine z_lsub [4, 5, 6, 7, 8, 9, 10, 11, 12, 13, 14, 15, 1, 0, 2] rfl ?_
            have hF : fL_resolves Gz Gn Ge Gv Gl Gx Gh i x2 = fL_resolves_L41 Gz Gn Ge Gv Gl Gx Gh i x2 n (a + 1) mn (-2) nx 0 ((fL_fetches Gz (upd N1 17 ((N1 17) + 1)) E1 V1 L1 X1 H1 i nx).1) ((fL_fetches Gz (upd N1 17 ((N1 17) + 1)) E1 V1 L1 X1 H1 i nx).2.1) ((fL_fetches Gz (upd N1 17 ((N1 17) + 1)) E1 V1 L1 X1 H1 i nx).2.2.1) ((fL_fetches Gz (upd N1 17 ((N1 17) + 1)) E1 V1 L1 X1 H1 i nx).2.2.2.1) ((fL_fetches Gz (upd N1 17 ((N1 17) + 1)) E1 V1 L1 X1 H1 i nx).2.2.2.2.1) ((fL_fetches Gz (upd N1 17 ((N1 17) + 1)) E1 V1 L1 X1 H1 i nx).2.2.2.2.2) U En := (hF0).trans ((if_neg c4).trans ((if_pos c5).trans ((if_pos c6).trans (if_pos c7))))
            exact ih (a + 1) qu qw mn (-2) nx 0 ((fL_fetches Gz (upd N1 17 ((N1 17) + 1)) E1 V1 L1 X1 H1 i nx).1) ((fL_fetches Gz (upd N1 17 ((N1 17) + 1)) E1 V1 L1 X1 H1 i nx).2.1) ((fL_fetches Gz (upd N1 17 ((N1 17) + 1)) E1 V1 L1 X1 H1 i nx).2.2.1) ((fL_fetches Gz (upd N1 17 ((N1 17) + 1)) E1 V1 L1 X1 H1 i nx).2.2.2.1) ((fL_fetches Gz (upd N1 17 ((N1 17) + 1)) E1 V1 L1 X1 H1 i nx).2.2.2.2.1) ((fL_fetches Gz (upd N1 17 ((N1 17) + 1)) E1 V1 L1 X1 H1 i nx).2.2.2.2.2) U En (by omega) (by show _ = nI (a + 1); simp only [z_ftN (show (17 : Nat) ≠ 11 by decide) (show (17 : Nat) ≠ 18 by decide), pk_us, pk_un (show (17 : Nat) ≠ 16 by decide), hc]; exact nI_1 a) hnx (z_ftV hnx hz hV) (z_mK hm) hU hF
          · refine z_aload_n B dL_resolves_192 4 rfl ?_
            refine z_iload B dL_resolves_193 0 rfl ?_
            refine z_ialdn B (N := 24) (f := ((fL_fetches Gz (upd N1 17 ((N1 17) + 1)) E1 V1 L1 X1 H1 i nx).2.2.1)) (k0 := (fL_slot ((fL_fetches Gz (upd N1 17 ((N1 17) + 1)) E1 V1 L1 X1 H1 i nx).2.1) i nx).toNatClampNeg) (v := (((fL_fetches Gz (upd N1 17 ((N1 17) + 1)) E1 V1 L1 X1 H1 i nx).2.2.1) ((fL_slot ((fL_fetches Gz (upd N1 17 ((N1 17) + 1)) E1 V1 L1 X1 H1 i nx).2.1) i nx).toNatClampNeg))) 3 0 rfl rfl (z_ofN (z_slO hi4) c7) rfl rfl dL_resolves_195 ?_
            refine z_ifge B 203 dL_resolves_196 (by decide) (fun c8 => ?_) (fun c8 => ?_)
            · refine z_iconst B (v := 0) dL_resolves_203 rfl ?_
              refine z_istore B (lv' := [(14, .int 0), (15, .int (fL_slot ((fL_fetches Gz (upd N1 17 ((N1 17) + 1)) E1 V1 L1 X1 H1 i nx).2.1) i nx)), (0, .ref pz), (1, .ref pn), (2, .ref pe), (3, .ref pv), (4, .ref pl), (5, .ref px), (6, .ref ph), (7, .int (nI i)), (8, .int x2), (9, .ref qu), (10, .ref qw), (11, .int mn), (12, .int an), (13, .int nx)]) dL_resolves_204 (by decide) rfl ?_
              refine z_iload B dL_resolves_206 1 rfl ?_
              refine z_ifge B 216 dL_resolves_208 (by decide) (fun _ => ?_) (fun h => absurd (z_s3 c7) h)
              refine z_aload_n B dL_resolves_216 5 rfl ?_
              refine z_iload B dL_resolves_217 1 rfl ?_
              refine z_ialdn B (N := 24) (f := ((fL_fetches Gz (upd N1 17 ((N1 17) + 1)) E1 V1 L1 X1 H1 i nx).2.2.1)) (k0 := (fL_slot ((fL_fetches Gz (upd N1 17 ((N1 17) + 1)) E1 V1 L1 X1 H1 i nx).2.1) i nx).toNatClampNeg) (v := (((fL_fetches Gz (upd N1 17 ((N1 17) + 1)) E1 V1 L1 X1 H1 i nx).2.2.1) ((fL_slot ((fL_fetches Gz (upd N1 17 ((N1 17) + 1)) E1 V1 L1 X1 H1 i nx).2.1) i nx).toNatClampNeg))) 3 0 rfl rfl (z_ofN (z_slO hi4) c7) rfl rfl dL_resolves_219 ?_
              refine z_ifle B 230 dL_resolves_220 (by decide) (fun c9 => ?_) (fun c9 => ?_)
              · refine z_aload_n B dL_resolves_230 5 rfl ?_
                refine z_iload B dL_resolves_231 1 rfl ?_
                refine z_ialdn B (N := 24) (f := ((fL_fetches Gz (upd N1 17 ((N1 17) + 1)) E1 V1 L1 X1 H1 i nx).2.2.1)) (k0 := (fL_slot ((fL_fetches Gz (upd N1 17 ((N1 17) + 1)) E1 V1 L1 X1 H1 i nx).2.1) i nx).toNatClampNeg) (v := (((fL_fetches Gz (upd N1 17 ((N1 17) + 1)) E1 V1 L1 X1 H1 i nx).2.2.1) ((fL_slot ((fL_fetches Gz (upd N1 17 ((N1 17) + 1)) E1 V1 L1 X1 H1 i nx).2.1) i nx).toNatClampNeg))) 3 0 rfl rfl (z_ofN (z_slO hi4) c7) rfl rfl dL_resolves_233 ?_
                refine z_ifne B 241 dL_resolves_234 (by decide) (fun _ => ?_) (fun h => absurd (z_s0 c8 c9) h)
                refine z_iconst B (v := (-1)) dL_resolves_237 rfl ?_
                refine z_goto B (tgt := 243) dL_resolves_238 (by decide) ?_
                refine z_istore B (lv' := [(12, .int (-1)), (14, .int 0), (15, .int (fL_slot ((fL_fetches Gz (upd N1 17 ((N1 17) + 1)) E1 V1 L1 X1 H1 i nx).2.1) i nx)), (0, .ref pz), (1, .ref pn), (2, .ref pe), (3, .ref pv), (4, .ref pl), (5, .ref px), (6, .ref ph), (7, .int (nI i)), (8, .int x2), (9, .ref qu), (10, .ref qw), (11, .int mn), (13, .int nx)]) dL_resolves_243 (by decide) rfl ?_
                refine z_iload B dL_resolves_245 1 rfl ?_
                refine z_ifeq B 259 dL_resolves_247 (by decide) (fun _ => ?_) (fun h => absurd (by decide) h)
                refine z_iload B dL_resolves_259 15 rfl ?_
                refine z_istore B (lv' := [(13, .int nx), (12, .int (-1)), (14, .int 0), (15, .int (fL_slot ((fL_fetches Gz (upd N1 17 ((N1 17) + 1)) E1 V1 L1 X1 H1 i nx).2.1) i nx)), (0, .ref pz), (1, .ref pn), (2, .ref pe), (3, .ref pv), (4, .ref pl), (5, .ref px), (6, .ref ph), (7, .int (nI i)), (8, .int x2), (9, .ref qu), (10, .ref qw), (11, .int mn)]) dL_resolves_261 (by decide) rfl ?_
                refine z_goto B (tgt := 41) dL_resolves_263 (by decide) ?_
                refine z_lsub [4, 5, 6, 7, 8, 9, 10, 11, 12, 13, 14, 15, 1, 0, 2] rfl ?_
                have hF : fL_resolves Gz Gn Ge Gv Gl Gx Gh i x2 = fL_resolves_L41 Gz Gn Ge Gv Gl Gx Gh i x2 n (a + 1) mn (-1) nx 0 ((fL_fetches Gz (upd N1 17 ((N1 17) + 1)) E1 V1 L1 X1 H1 i nx).1) ((fL_fetches Gz (upd N1 17 ((N1 17) + 1)) E1 V1 L1 X1 H1 i nx).2.1) ((fL_fetches Gz (upd N1 17 ((N1 17) + 1)) E1 V1 L1 X1 H1 i nx).2.2.1) ((fL_fetches Gz (upd N1 17 ((N1 17) + 1)) E1 V1 L1 X1 H1 i nx).2.2.2.1) ((fL_fetches Gz (upd N1 17 ((N1 17) + 1)) E1 V1 L1 X1 H1 i nx).2.2.2.2.1) ((fL_fetches Gz (upd N1 17 ((N1 17) + 1)) E1 V1 L1 X1 H1 i nx).2.2.2.2.2) U En := (hF0).trans ((if_neg c4).trans ((if_pos c5).trans ((if_pos c6).trans ((if_neg c7).trans ((if_pos c8).trans (if_pos c9))))))
                exact ih (a + 1) qu qw mn (-1) nx 0 ((fL_fetches Gz (upd N1 17 ((N1 17) + 1)) E1 V1 L1 X1 H1 i nx).1) ((fL_fetches Gz (upd N1 17 ((N1 17) + 1)) E1 V1 L1 X1 H1 i nx).2.1) ((fL_fetches Gz (upd N1 17 ((N1 17) + 1)) E1 V1 L1 X1 H1 i nx).2.2.1) ((fL_fetches Gz (upd N1 17 ((N1 17) + 1)) E1 V1 L1 X1 H1 i nx).2.2.2.1) ((fL_fetches Gz (upd N1 17 ((N1 17) + 1)) E1 V1 L1 X1 H1 i nx).2.2.2.2.1) ((fL_fetches Gz (upd N1 17 ((N1 17) + 1)) E1 V1 L1 X1 H1 i nx).2.2.2.2.2) U En (by omega) (by show _ = nI (a + 1); simp only [z_ftN (show (17 : Nat) ≠ 11 by decide) (show (17 : Nat) ≠ 18 by decide), pk_us, pk_un (show (17 : Nat) ≠ 16 by decide), hc]; exact nI_1 a) hnx (z_ftV hnx hz hV) (z_mK hm) hU hF
              · refine z_aload_n B dL_resolves_223 5 rfl ?_
                refine z_iload B dL_resolves_224 1 rfl ?_
                refine z_ialdn B (N := 24) (f := ((fL_fetches Gz (upd N1 17 ((N1 17) + 1)) E1 V1 L1 X1 H1 i nx).2.2.1)) (k0 := (fL_slot ((fL_fetches Gz (upd N1 17 ((N1 17) + 1)) E1 V1 L1 X1 H1 i nx).2.1) i nx).toNatClampNeg) (v := (((fL_fetches Gz (upd N1 17 ((N1 17) + 1)) E1 V1 L1 X1 H1 i nx).2.2.1) ((fL_slot ((fL_fetches Gz (upd N1 17 ((N1 17) + 1)) E1 V1 L1 X1 H1 i nx).2.1) i nx).toNatClampNeg))) 3 0 rfl rfl (z_ofN (z_slO hi4) c7) rfl rfl dL_resolves_226 ?_
                refine z_goto B (tgt := 243) dL_resolves_227 (by decide) ?_
                refine z_istore B (lv' := [(12, .int (((fL_fetches Gz (upd N1 17 ((N1 17) + 1)) E1 V1 L1 X1 H1 i nx).2.2.1) ((fL_slot ((fL_fetches Gz (upd N1 17 ((N1 17) + 1)) E1 V1 L1 X1 H1 i nx).2.1) i nx).toNatClampNeg))), (14, .int 0), (15, .int (fL_slot ((fL_fetches Gz (upd N1 17 ((N1 17) + 1)) E1 V1 L1 X1 H1 i nx).2.1) i nx)), (0, .ref pz), (1, .ref pn), (2, .ref pe), (3, .ref pv), (4, .ref pl), (5, .ref px), (6, .ref ph), (7, .int (nI i)), (8, .int x2), (9, .ref qu), (10, .ref qw), (11, .int mn), (13, .int nx)]) dL_resolves_243 (by decide) rfl ?_
                refine z_iload B dL_resolves_245 1 rfl ?_
                refine z_ifeq B 259 dL_resolves_247 (by decide) (fun _ => ?_) (fun h => absurd (by decide) h)
                refine z_iload B dL_resolves_259 15 rfl ?_
                refine z_istore B (lv' := [(13, .int nx), (12, .int (((fL_fetches Gz (upd N1 17 ((N1 17) + 1)) E1 V1 L1 X1 H1 i nx).2.2.1) ((fL_slot ((fL_fetches Gz (upd N1 17 ((N1 17) + 1)) E1 V1 L1 X1 H1 i nx).2.1) i nx).toNatClampNeg))), (14, .int 0), (15, .int (fL_slot ((fL_fetches Gz (upd N1 17 ((N1 17) + 1)) E1 V1 L1 X1 H1 i nx).2.1) i nx)), (0, .ref pz), (1, .ref pn), (2, .ref pe), (3, .ref pv), (4, .ref pl), (5, .ref px), (6, .ref ph), (7, .int (nI i)), (8, .int x2), (9, .ref qu), (10, .ref qw), (11, .int mn)]) dL_resolves_261 (by decide) rfl ?_
                refine z_goto B (tgt := 41) dL_resolves_263 (by decide) ?_
                refine z_lsub [4, 5, 6, 7, 8, 9, 10, 11, 12, 13, 14, 15, 1, 0, 2] rfl ?_
                have hF : fL_resolves Gz Gn Ge Gv Gl Gx Gh i x2 = fL_resolves_L41 Gz Gn Ge Gv Gl Gx Gh i x2 n (a + 1) mn (((fL_fetches Gz (upd N1 17 ((N1 17) + 1)) E1 V1 L1 X1 H1 i nx).2.2.1) ((fL_slot ((fL_fetches Gz (upd N1 17 ((N1 17) + 1)) E1 V1 L1 X1 H1 i nx).2.1) i nx).toNatClampNeg)) nx 0 ((fL_fetches Gz (upd N1 17 ((N1 17) + 1)) E1 V1 L1 X1 H1 i nx).1) ((fL_fetches Gz (upd N1 17 ((N1 17) + 1)) E1 V1 L1 X1 H1 i nx).2.1) ((fL_fetches Gz (upd N1 17 ((N1 17) + 1)) E1 V1 L1 X1 H1 i nx).2.2.1) ((fL_fetches Gz (upd N1 17 ((N1 17) + 1)) E1 V1 L1 X1 H1 i nx).2.2.2.1) ((fL_fetches Gz (upd N1 17 ((N1 17) + 1)) E1 V1 L1 X1 H1 i nx).2.2.2.2.1) ((fL_fetches Gz (upd N1 17 ((N1 17) + 1)) E1 V1 L1 X1 H1 i nx).2.2.2.2.2) U En := (hF0).trans ((if_neg c4).trans ((if_pos c5).trans ((if_pos c6).trans ((if_neg c7).trans ((if_pos c8).trans (if_neg c9))))))
                exact ih (a + 1) qu qw mn (((fL_fetches Gz (upd N1 17 ((N1 17) + 1)) E1 V1 L1 X1 H1 i nx).2.2.1) ((fL_slot ((fL_fetches Gz (upd N1 17 ((N1 17) + 1)) E1 V1 L1 X1 H1 i nx).2.1) i nx).toNatClampNeg)) nx 0 ((fL_fetches Gz (upd N1 17 ((N1 17) + 1)) E1 V1 L1 X1 H1 i nx).1) ((fL_fetches Gz (upd N1 17 ((N1 17) + 1)) E1 V1 L1 X1 H1 i nx).2.1) ((fL_fetches Gz (upd N1 17 ((N1 17) + 1)) E1 V1 L1 X1 H1 i nx).2.2.1) ((fL_fetches Gz (upd N1 17 ((N1 17) + 1)) E1 V1 L1 X1 H1 i nx).2.2.2.1) ((fL_fetches Gz (upd N1 17 ((N1 17) + 1)) E1 V1 L1 X1 H1 i nx).2.2.2.2.1) ((fL_fetches Gz (upd N1 17 ((N1 17) + 1)) E1 V1 L1 X1 H1 i nx).2.2.2.2.2) U En (by omega) (by show _ = nI (a + 1); simp only [z_ftN (show (17 : Nat) ≠ 11 by decide) (show (17 : Nat) ≠ 18 by decide), pk_us, pk_un (show (17 : Nat) ≠ 16 by decide), hc]; exact nI_1 a) hnx (z_ftV hnx hz hV) (z_mK hm) hU hF
            · refine z_iconst B (v := 1) dL_resolves_199 rfl ?_
              refine z_goto B (tgt := 204) dL_resolves_200 (by decide) ?_
              refine z_istore B (lv' := [(14, .int 1), (15, .int (fL_slot ((fL_fetches Gz (upd N1 17 ((N1 17) + 1)) E1 V1 L1 X1 H1 i nx).2.1) i nx)), (0, .ref pz), (1, .ref pn), (2, .ref pe), (3, .ref pv), (4, .ref pl), (5, .ref px), (6, .ref ph), (7, .int (nI i)), (8, .int x2), (9, .ref qu), (10, .ref qw), (11, .int mn), (12, .int an), (13, .int nx)]) dL_resolves_204 (by decide) rfl ?_
              refine z_iload B dL_resolves_206 1 rfl ?_
              refine z_ifge B 216 dL_resolves_208 (by decide) (fun _ => ?_) (fun h => absurd (z_s3 c7) h)
              refine z_aload_n B dL_resolves_216 5 rfl ?_
              refine z_iload B dL_resolves_217 1 rfl ?_
              refine z_ialdn B (N := 24) (f := ((fL_fetches Gz (upd N1 17 ((N1 17) + 1)) E1 V1 L1 X1 H1 i nx).2.2.1)) (k0 := (fL_slot ((fL_fetches Gz (upd N1 17 ((N1 17) + 1)) E1 V1 L1 X1 H1 i nx).2.1) i nx).toNatClampNeg) (v := (((fL_fetches Gz (upd N1 17 ((N1 17) + 1)) E1 V1 L1 X1 H1 i nx).2.2.1) ((fL_slot ((fL_fetches Gz (upd N1 17 ((N1 17) + 1)) E1 V1 L1 X1 H1 i nx).2.1) i nx).toNatClampNeg))) 3 0 rfl rfl (z_ofN (z_slO hi4) c7) rfl rfl dL_resolves_219 ?_
              refine z_ifle B 230 dL_resolves_220 (by decide) (fun _ => ?_) (fun h => absurd (z_s1 c8) h)
              refine z_aload_n B dL_resolves_230 5 rfl ?_
              refine z_iload B dL_resolves_231 1 rfl ?_
              refine z_ialdn B (N := 24) (f := ((fL_fetches Gz (upd N1 17 ((N1 17) + 1)) E1 V1 L1 X1 H1 i nx).2.2.1)) (k0 := (fL_slot ((fL_fetches Gz (upd N1 17 ((N1 17) + 1)) E1 V1 L1 X1 H1 i nx).2.1) i nx).toNatClampNeg) (v := (((fL_fetches Gz (upd N1 17 ((N1 17) + 1)) E1 V1 L1 X1 H1 i nx).2.2.1) ((fL_slot ((fL_fetches Gz (upd N1 17 ((N1 17) + 1)) E1 V1 L1 X1 H1 i nx).2.1) i nx).toNatClampNeg))) 3 0 rfl rfl (z_ofN (z_slO hi4) c7) rfl rfl dL_resolves_233 ?_
              refine z_ifne B 241 dL_resolves_234 (by decide) (fun h => absurd h (z_s2 c8)) (fun _ => ?_)
              refine z_bipush B (v := (-2)) dL_resolves_241 rfl ?_
              refine z_istore B (lv' := [(12, .int (-2)), (14, .int 1), (15, .int (fL_slot ((fL_fetches Gz (upd N1 17 ((N1 17) + 1)) E1 V1 L1 X1 H1 i nx).2.1) i nx)), (0, .ref pz), (1, .ref pn), (2, .ref pe), (3, .ref pv), (4, .ref pl), (5, .ref px), (6, .ref ph), (7, .int (nI i)), (8, .int x2), (9, .ref qu), (10, .ref qw), (11, .int mn), (13, .int nx)]) dL_resolves_243 (by decide) rfl ?_
              refine z_iload B dL_resolves_245 1 rfl ?_
              refine z_ifeq B 259 dL_resolves_247 (by decide) (fun h => absurd h (by decide)) (fun _ => ?_)
              refine z_iconst B (v := (-1)) dL_resolves_250 rfl ?_
              refine z_aload_n B dL_resolves_251 6 rfl ?_
              refine z_iload B dL_resolves_252 2 rfl ?_
              refine z_ialdn B (N := 24) (f := ((fL_fetches Gz (upd N1 17 ((N1 17) + 1)) E1 V1 L1 X1 H1 i nx).2.2.1)) (k0 := (fL_slot ((fL_fetches Gz (upd N1 17 ((N1 17) + 1)) E1 V1 L1 X1 H1 i nx).2.1) i nx).toNatClampNeg) (v := (((fL_fetches Gz (upd N1 17 ((N1 17) + 1)) E1 V1 L1 X1 H1 i nx).2.2.1) ((fL_slot ((fL_fetches Gz (upd N1 17 ((N1 17) + 1)) E1 V1 L1 X1 H1 i nx).2.1) i nx).toNatClampNeg))) 3 0 rfl rfl (z_ofN (z_slO hi4) c7) rfl rfl dL_resolves_254 ?_
              refine z_isub B dL_resolves_255 ?_
              refine z_goto B (tgt := 261) dL_resolves_256 (by decide) ?_
              refine z_istore B (lv' := [(13, .int ((-1) - (((fL_fetches Gz (upd N1 17 ((N1 17) + 1)) E1 V1 L1 X1 H1 i nx).2.2.1) ((fL_slot ((fL_fetches Gz (upd N1 17 ((N1 17) + 1)) E1 V1 L1 X1 H1 i nx).2.1) i nx).toNatClampNeg)))), (12, .int (-2)), (14, .int 1), (15, .int (fL_slot ((fL_fetches Gz (upd N1 17 ((N1 17) + 1)) E1 V1 L1 X1 H1 i nx).2.1) i nx)), (0, .ref pz), (1, .ref pn), (2, .ref pe), (3, .ref pv), (4, .ref pl), (5, .ref px), (6, .ref ph), (7, .int (nI i)), (8, .int x2), (9, .ref qu), (10, .ref qw), (11, .int mn)]) dL_resolves_261 (by decide) rfl ?_
              refine z_goto B (tgt := 41) dL_resolves_263 (by decide) ?_
              refine z_lsub [4, 5, 6, 7, 8, 9, 10, 11, 12, 13, 14, 15, 1, 0, 2] rfl ?_
              have hF : fL_resolves Gz Gn Ge Gv Gl Gx Gh i x2 = fL_resolves_L41 Gz Gn Ge Gv Gl Gx Gh i x2 n (a + 1) mn (-2) ((-1) - (((fL_fetches Gz (upd N1 17 ((N1 17) + 1)) E1 V1 L1 X1 H1 i nx).2.2.1) ((fL_slot ((fL_fetches Gz (upd N1 17 ((N1 17) + 1)) E1 V1 L1 X1 H1 i nx).2.1) i nx).toNatClampNeg))) 1 ((fL_fetches Gz (upd N1 17 ((N1 17) + 1)) E1 V1 L1 X1 H1 i nx).1) ((fL_fetches Gz (upd N1 17 ((N1 17) + 1)) E1 V1 L1 X1 H1 i nx).2.1) ((fL_fetches Gz (upd N1 17 ((N1 17) + 1)) E1 V1 L1 X1 H1 i nx).2.2.1) ((fL_fetches Gz (upd N1 17 ((N1 17) + 1)) E1 V1 L1 X1 H1 i nx).2.2.2.1) ((fL_fetches Gz (upd N1 17 ((N1 17) + 1)) E1 V1 L1 X1 H1 i nx).2.2.2.2.1) ((fL_fetches Gz (upd N1 17 ((N1 17) + 1)) E1 V1 L1 X1 H1 i nx).2.2.2.2.2) U En := (hF0).trans ((if_neg c4).trans ((if_pos c5).trans ((if_pos c6).trans ((if_neg c7).trans (if_neg c8)))))
              exact ih (a + 1) qu qw mn (-2) ((-1) - (((fL_fetches Gz (upd N1 17 ((N1 17) + 1)) E1 V1 L1 X1 H1 i nx).2.2.1) ((fL_slot ((fL_fetches Gz (upd N1 17 ((N1 17) + 1)) E1 V1 L1 X1 H1 i nx).2.1) i nx).toNatClampNeg))) 1 ((fL_fetches Gz (upd N1 17 ((N1 17) + 1)) E1 V1 L1 X1 H1 i nx).1) ((fL_fetches Gz (upd N1 17 ((N1 17) + 1)) E1 V1 L1 X1 H1 i nx).2.1) ((fL_fetches Gz (upd N1 17 ((N1 17) + 1)) E1 V1 L1 X1 H1 i nx).2.2.1) ((fL_fetches Gz (upd N1 17 ((N1 17) + 1)) E1 V1 L1 X1 H1 i nx).2.2.2.1) ((fL_fetches Gz (upd N1 17 ((N1 17) + 1)) E1 V1 L1 X1 H1 i nx).2.2.2.2.1) ((fL_fetches Gz (upd N1 17 ((N1 17) + 1)) E1 V1 L1 X1 H1 i nx).2.2.2.2.2) U En (by omega) (by show _ = nI (a + 1); simp only [z_ftN (show (17 : Nat) ≠ 11 by decide) (show (17 : Nat) ≠ 18 by decide), pk_us, pk_un (show (17 : Nat) ≠ 16 by decide), hc]; exact nI_1 a) ((z_ftV hnx hz hV) _ (z_lt0 c8)) (z_ftV hnx hz hV) (z_mK hm) hU hF
        · refine z_iload B dL_resolves_157 0 rfl ?_
          refine z_iflt B 184 dL_resolves_159 (by decide) (fun _ => ?_) (fun h => absurd c5 h)
          refine z_iconst B (v := (-1)) dL_resolves_184 rfl ?_
          refine z_istore B (lv' := [(15, .int (-1)), (0, .ref pz), (1, .ref pn), (2, .ref pe), (3, .ref pv), (4, .ref pl), (5, .ref px), (6, .ref ph), (7, .int (nI i)), (8, .int x2), (9, .ref qu), (10, .ref qw), (11, .int mn), (12, .int an), (13, .int nx), (14, .int go)]) dL_resolves_185 (by decide) rfl ?_
          refine z_iload B dL_resolves_187 0 rfl ?_
          refine z_iflt B 203 dL_resolves_189 (by decide) (fun _ => ?_) (fun h => absurd (by decide) h)
          refine z_iconst B (v := 0) dL_resolves_203 rfl ?_
          refine z_istore B (lv' := [(14, .int 0), (15, .int (-1)), (0, .ref pz), (1, .ref pn), (2, .ref pe), (3, .ref pv), (4, .ref pl), (5, .ref px), (6, .ref ph), (7, .int (nI i)), (8, .int x2), (9, .ref qu), (10, .ref qw), (11, .int mn), (12, .int an), (13, .int nx)]) dL_resolves_204 (by decide) rfl ?_
          refine z_iload B dL_resolves_206 1 rfl ?_
          refine z_ifge B 216 dL_resolves_208 (by decide) (fun h => absurd h (by decide)) (fun _ => ?_)
          refine z_bipush B (v := (-2)) dL_resolves_211 rfl ?_
          refine z_goto B (tgt := 243) dL_resolves_213 (by decide) ?_
          refine z_istore B (lv' := [(12, .int (-2)), (14, .int 0), (15, .int (-1)), (0, .ref pz), (1, .ref pn), (2, .ref pe), (3, .ref pv), (4, .ref pl), (5, .ref px), (6, .ref ph), (7, .int (nI i)), (8, .int x2), (9, .ref qu), (10, .ref qw), (11, .int mn), (13, .int nx)]) dL_resolves_243 (by decide) rfl ?_
          refine z_iload B dL_resolves_245 1 rfl ?_
          refine z_ifeq B 259 dL_resolves_247 (by decide) (fun _ => ?_) (fun h => absurd (by decide) h)
          refine z_iload B dL_resolves_259 15 rfl ?_
          refine z_istore B (lv' := [(13, .int nx), (12, .int (-2)), (14, .int 0), (15, .int (-1)), (0, .ref pz), (1, .ref pn), (2, .ref pe), (3, .ref pv), (4, .ref pl), (5, .ref px), (6, .ref ph), (7, .int (nI i)), (8, .int x2), (9, .ref qu), (10, .ref qw), (11, .int mn)]) dL_resolves_261 (by decide) rfl ?_
          refine z_goto B (tgt := 41) dL_resolves_263 (by decide) ?_
          refine z_lsub [4, 5, 6, 7, 8, 9, 10, 11, 12, 13, 14, 15, 1, 0, 2] rfl ?_
          have hF : fL_resolves Gz Gn Ge Gv Gl Gx Gh i x2 = fL_resolves_L41 Gz Gn Ge Gv Gl Gx Gh i x2 n (a + 1) mn (-2) nx 0 (upd N1 17 ((N1 17) + 1)) E1 V1 L1 X1 H1 U En := (hF0).trans ((if_neg c4).trans ((if_pos c5).trans (if_neg c6)))
          exact ih (a + 1) qu qw mn (-2) nx 0 (upd N1 17 ((N1 17) + 1)) E1 V1 L1 X1 H1 U En (by omega) (by show _ = nI (a + 1); simp only [z_ftN (show (17 : Nat) ≠ 11 by decide) (show (17 : Nat) ≠ 18 by decide), pk_us, pk_un (show (17 : Nat) ≠ 16 by decide), hc]; exact nI_1 a) hnx hV (z_mK hm) hU hF
      · refine z_aload B dL_resolves_77 6 rfl ?_
        refine z_iload B dL_resolves_79 0 rfl ?_
        refine z_ialdn B (N := 24) (f := X1) (k0 := (fL_slot E1 i nx).toNatClampNeg) (v := (X1 ((fL_slot E1 i nx).toNatClampNeg))) 5 0 rfl rfl (z_ofN (z_slO hi4) c5) rfl rfl dL_resolves_81 ?_
        refine z_aload_n B dL_resolves_82 2 rfl ?_
        refine z_iconst B (v := 0) dL_resolves_83 rfl ?_
        refine z_ialdn B (N := 20) (f := (upd N1 17 ((N1 17) + 1))) (k0 := 0) (v := (N1 0)) 1 0 rfl rfl (z_vpc (k := 0) rfl (by decide)) rfl rfl dL_resolves_84 ?_
        refine z_icle B 120 dL_resolves_85 (by decide) (fun c10 => ?_) (fun c10 => ?_)
        · refine z_aload_n B dL_resolves_120 2 rfl ?_
          refine z_iconst B (v := 2) dL_resolves_121 rfl ?_
          refine z_ialdn B (N := 20) (f := (upd N1 17 ((N1 17) + 1))) (k0 := 2) (v := (N1 2)) 1 0 rfl rfl (z_vpc (k := 2) rfl (by decide)) rfl rfl dL_resolves_122 ?_
          refine z_iconst B (v := 1) dL_resolves_123 rfl ?_
          refine z_icne B 157 dL_resolves_124 (by decide) (fun c11 => ?_) (fun c11 => ?_)
          · refine z_aload_n B dL_resolves_127 1 rfl ?_
            refine z_aload_n B dL_resolves_128 2 rfl ?_
            refine z_aload_n B dL_resolves_129 3 rfl ?_
            refine z_aload_n B dL_resolves_130 4 rfl ?_
            refine z_aload B dL_resolves_131 5 rfl ?_
            refine z_aload B dL_resolves_133 6 rfl ?_
            refine z_aload B dL_resolves_135 7 rfl ?_
            refine z_iload B dL_resolves_137 8 rfl ?_
            refine z_iload B dL_resolves_139 14 rfl ?_
            refine z_S0 B (kL_fetches l hl K pz pn pe pv pl px ph Gz (upd N1 17 ((N1 17) + 1)) E1 V1 L1 X1 H1 i nx hi4 hnx) [0, 1, 2, 3, 4, 5, 6] [7, 8] (br := [[(qu, .inl (zI K, 6, .inl U))], [(qw, .inl (zI K, 6, .inl En))]]) (bs' := [[(pz, .inl (zI K, 32, .inl Gz))], [(pn, .inl (zI K, 20, .inl ((fL_fetches Gz (upd N1 17 ((N1 17) + 1)) E1 V1 L1 X1 H1 i nx).1)))], [(pe, .inl (zI K, 24, .inl ((fL_fetches Gz (upd N1 17 ((N1 17) + 1)) E1 V1 L1 X1 H1 i nx).2.1)))], [(pv, .inl (zI K, 24, .inl ((fL_fetches Gz (upd N1 17 ((N1 17) + 1)) E1 V1 L1 X1 H1 i nx).2.2.1)))], [(pl, .inl (zI K, 24, .inl ((fL_fetches Gz (upd N1 17 ((N1 17) + 1)) E1 V1 L1 X1 H1 i nx).2.2.2.1)))], [(px, .inl (zI K, 24, .inl ((fL_fetches Gz (upd N1 17 ((N1 17) + 1)) E1 V1 L1 X1 H1 i nx).2.2.2.2.1)))], [(ph, .inl (zI K, 24, .inl ((fL_fetches Gz (upd N1 17 ((N1 17) + 1)) E1 V1 L1 X1 H1 i nx).2.2.2.2.2)))], [(qu, .inl (zI K, 6, .inl U))], [(qw, .inl (zI K, 6, .inl En))]]) (st := []) (nA := 9) (zsp rfl rfl rfl) (zsp rfl rfl rfl) gL_resolves_L_fetches rfl (by decide +kernel) ⟨Nat.le_of_ble_eq_true rfl, Nat.le_of_ble_eq_true rfl⟩ rfl rfl (Nat.le_of_ble_eq_true rfl) ⟨Nat.le_of_ble_eq_true rfl, Nat.le_of_ble_eq_true rfl⟩ dL_resolves_141 z_noX (fun _ => ?_)
            refine z_aload_n B dL_resolves_144 3 rfl ?_
            refine z_iload B dL_resolves_145 8 rfl ?_
            refine z_iload B dL_resolves_147 14 rfl ?_
            refine z_S1 B (kL_slot l hl K pe ((fL_fetches Gz (upd N1 17 ((N1 17) + 1)) E1 V1 L1 X1 H1 i nx).2.1) i nx hi4) [2] [0, 1, 3, 4, 5, 6, 7, 8] (br := [[(pz, .inl (zI K, 32, .inl Gz))], [(pn, .inl (zI K, 20, .inl ((fL_fetches Gz (upd N1 17 ((N1 17) + 1)) E1 V1 L1 X1 H1 i nx).1)))], [(pv, .inl (zI K, 24, .inl ((fL_fetches Gz (upd N1 17 ((N1 17) + 1)) E1 V1 L1 X1 H1 i nx).2.2.1)))], [(pl, .inl (zI K, 24, .inl ((fL_fetches Gz (upd N1 17 ((N1 17) + 1)) E1 V1 L1 X1 H1 i nx).2.2.2.1)))], [(px, .inl (zI K, 24, .inl ((fL_fetches Gz (upd N1 17 ((N1 17) + 1)) E1 V1 L1 X1 H1 i nx).2.2.2.2.1)))], [(ph, .inl (zI K, 24, .inl ((fL_fetches Gz (upd N1 17 ((N1 17) + 1)) E1 V1 L1 X1 H1 i nx).2.2.2.2.2)))], [(qu, .inl (zI K, 6, .inl U))], [(qw, .inl (zI K, 6, .inl En))]]) (bs' := [[(pz, .inl (zI K, 32, .inl Gz))], [(pn, .inl (zI K, 20, .inl ((fL_fetches Gz (upd N1 17 ((N1 17) + 1)) E1 V1 L1 X1 H1 i nx).1)))], [(pe, .inl (zI K, 24, .inl ((fL_fetches Gz (upd N1 17 ((N1 17) + 1)) E1 V1 L1 X1 H1 i nx).2.1)))], [(pv, .inl (zI K, 24, .inl ((fL_fetches Gz (upd N1 17 ((N1 17) + 1)) E1 V1 L1 X1 H1 i nx).2.2.1)))], [(pl, .inl (zI K, 24, .inl ((fL_fetches Gz (upd N1 17 ((N1 17) + 1)) E1 V1 L1 X1 H1 i nx).2.2.2.1)))], [(px, .inl (zI K, 24, .inl ((fL_fetches Gz (upd N1 17 ((N1 17) + 1)) E1 V1 L1 X1 H1 i nx).2.2.2.2.1)))], [(ph, .inl (zI K, 24, .inl ((fL_fetches Gz (upd N1 17 ((N1 17) + 1)) E1 V1 L1 X1 H1 i nx).2.2.2.2.2)))], [(qu, .inl (zI K, 6, .inl U))], [(qw, .inl (zI K, 6, .inl En))]]) (st := []) (nA := 3) (zsp rfl rfl rfl) (zsp rfl rfl rfl) gL_resolves_L_slot rfl (by decide +kernel) ⟨Nat.le_of_ble_eq_true rfl, Nat.le_of_ble_eq_true rfl⟩ rfl rfl (Nat.le_of_ble_eq_true rfl) ⟨Nat.le_of_ble_eq_true rfl, Nat.le_of_ble_eq_true rfl⟩ dL_resolves_149 z_noX (fun _ => ?_)
            refine z_istore B (lv' := [(15, .int (fL_slot ((fL_fetches Gz (upd N1 17 ((N1 17) + 1)) E1 V1 L1 X1 H1 i nx).2.1) i nx)), (0, .ref pz), (1, .ref pn), (2, .ref pe), (3, .ref pv), (4, .ref pl), (5, .ref px), (6, .ref ph), (7, .int (nI i)), (8, .int x2), (9, .ref qu), (10, .ref qw), (11, .int mn), (12, .int an), (13, .int nx), (14, .int go)]) dL_resolves_152 (by decide) rfl ?_
            refine z_goto B (tgt := 187) dL_resolves_154 (by decide) ?_
            refine z_iload B dL_resolves_187 0 rfl ?_
            refine z_iflt B 203 dL_resolves_189 (by decide) (fun c12 => ?_) (fun c12 => ?_)
            · refine z_iconst B (v := 0) dL_resolves_203 rfl ?_
              refine z_istore B (lv' := [(14, .int 0), (15, .int (fL_slot ((fL_fetches Gz (upd N1 17 ((N1 17) + 1)) E1 V1 L1 X1 H1 i nx).2.1) i nx)), (0, .ref pz), (1, .ref pn), (2, .ref pe), (3, .ref pv), (4, .ref pl), (5, .ref px), (6, .ref ph), (7, .int (nI i)), (8, .int x2), (9, .ref qu), (10, .ref qw), (11, .int mn), (12, .int an), (13, .int nx)]) dL_resolves_204 (by decide) rfl ?_
              refine z_iload B dL_resolves_206 1 rfl ?_
              refine z_ifge B 216 dL_resolves_208 (by decide) (fun h => absurd h (Int32.not_le.mpr c12)) (fun _ => ?_)
              refine z_bipush B (v := (-2)) dL_resolves_211 rfl ?_
              refine z_goto B (tgt := 243) dL_resolves_213 (by decide) ?_
              refine z_istore B (lv' := [(12, .int (-2)), (14, .int 0), (15, .int (fL_slot ((fL_fetches Gz (upd N1 17 ((N1 17) + 1)) E1 V1 L1 X1 H1 i nx).2.1) i nx)), (0, .ref pz), (1, .ref pn), (2, .ref pe), (3, .ref pv), (4, .ref pl), (5, .ref px), (6, .ref ph), (7, .int (nI i)), (8, .int x2), (9, .ref qu), (10, .ref qw), (11, .int mn), (13, .int nx)]) dL_resolves_243 (by decide) rfl ?_
              refine z_iload B dL_resolves_245 1 rfl ?_
              refine z_ifeq B 259 dL_resolves_247 (by decide) (fun _ => ?_) (fun h => absurd (by decide) h)
              refine z_iload B dL_resolves_259 15 rfl ?_
              refine z_istore B (lv' := [(13, .int nx), (12, .int (-2)), (14, .int 0), (15, .int (fL_slot ((fL_fetches Gz (upd N1 17 ((N1 17) + 1)) E1 V1 L1 X1 H1 i nx).2.1) i nx)), (0, .ref pz), (1, .ref pn), (2, .ref pe), (3, .ref pv), (4, .ref pl), (5, .ref px), (6, .ref ph), (7, .int (nI i)), (8, .int x2), (9, .ref qu), (10, .ref qw), (11, .int mn)]) dL_resolves_261 (by decide) rfl ?_
              refine z_goto B (tgt := 41) dL_resolves_263 (by decide) ?_
              refine z_lsub [4, 5, 6, 7, 8, 9, 10, 11, 12, 13, 14, 15, 1, 0, 2] rfl ?_
              have hF : fL_resolves Gz Gn Ge Gv Gl Gx Gh i x2 = fL_resolves_L41 Gz Gn Ge Gv Gl Gx Gh i x2 n (a + 1) mn (-2) nx 0 ((fL_fetches Gz (upd N1 17 ((N1 17) + 1)) E1 V1 L1 X1 H1 i nx).1) ((fL_fetches Gz (upd N1 17 ((N1 17) + 1)) E1 V1 L1 X1 H1 i nx).2.1) ((fL_fetches Gz (upd N1 17 ((N1 17) + 1)) E1 V1 L1 X1 H1 i nx).2.2.1) ((fL_fetches Gz (upd N1 17 ((N1 17) + 1)) E1 V1 L1 X1 H1 i nx).2.2.2.1) ((fL_fetches Gz (upd N1 17 ((N1 17) + 1)) E1 V1 L1 X1 H1 i nx).2.2.2.2.1) ((fL_fetches Gz (upd N1 17 ((N1 17) + 1)) E1 V1 L1 X1 H1 i nx).2.2.2.2.2) U En := (hF0).trans ((if_neg c4).trans ((if_neg c5).trans ((if_pos c10).trans ((if_pos c11).trans (if_pos c12)))))
              exact ih (a + 1) qu qw mn (-2) nx 0 ((fL_fetches Gz (upd N1 17 ((N1 17) + 1)) E1 V1 L1 X1 H1 i nx).1) ((fL_fetches Gz (upd N1 17 ((N1 17) + 1)) E1 V1 L1 X1 H1 i nx).2.1) ((fL_fetches Gz (upd N1 17 ((N1 17) + 1)) E1 V1 L1 X1 H1 i nx).2.2.1) ((fL_fetches Gz (upd N1 17 ((N1 17) + 1)) E1 V1 L1 X1 H1 i nx).2.2.2.1) ((fL_fetches Gz (upd N1 17 ((N1 17) + 1)) E1 V1 L1 X1 H1 i nx).2.2.2.2.1) ((fL_fetches Gz (upd N1 17 ((N1 17) + 1)) E1 V1 L1 X1 H1 i nx).2.2.2.2.2) U En (by omega) (by show _ = nI (a + 1); simp only [z_ftN (show (17 : Nat) ≠ 11 by decide) (show (17 : Nat) ≠ 18 by decide), pk_us, pk_un (show (17 : Nat) ≠ 16 by decide), hc]; exact nI_1 a) hnx (z_ftV hnx hz hV) (z_mK hm) hU hF
            · refine z_aload_n B dL_resolves_192 4 rfl ?_
              refine z_iload B dL_resolves_193 0 rfl ?_
              refine z_ialdn B (N := 24) (f := ((fL_fetches Gz (upd N1 17 ((N1 17) + 1)) E1 V1 L1 X1 H1 i nx).2.2.1)) (k0 := (fL_slot ((fL_fetches Gz (upd N1 17 ((N1 17) + 1)) E1 V1 L1 X1 H1 i nx).2.1) i nx).toNatClampNeg) (v := (((fL_fetches Gz (upd N1 17 ((N1 17) + 1)) E1 V1 L1 X1 H1 i nx).2.2.1) ((fL_slot ((fL_fetches Gz (upd N1 17 ((N1 17) + 1)) E1 V1 L1 X1 H1 i nx).2.1) i nx).toNatClampNeg))) 3 0 rfl rfl (z_ofN (z_slO hi4) c12) rfl rfl dL_resolves_195 ?_
              refine z_ifge B 203 dL_resolves_196 (by decide) (fun c13 => ?_) (fun c13 => ?_)
              · refine z_iconst B (v := 0) dL_resolves_203 rfl ?_
                refine z_istore B (lv' := [(14, .int 0), (15, .int (fL_slot ((fL_fetches Gz (upd N1 17 ((N1 17) + 1)) E1 V1 L1 X1 H1 i nx).2.1) i nx)), (0, .ref pz), (1, .ref pn), (2, .ref pe), (3, .ref pv), (4, .ref pl), (5, .ref px), (6, .ref ph), (7, .int (nI i)), (8, .int x2), (9, .ref qu), (10, .ref qw), (11, .int mn), (12, .int an), (13, .int nx)]) dL_resolves_204 (by decide) rfl ?_
                refine z_iload B dL_resolves_206 1 rfl ?_
                refine z_ifge B 216 dL_resolves_208 (by decide) (fun _ => ?_) (fun h => absurd (z_s3 c12) h)
                refine z_aload_n B dL_resolves_216 5 rfl ?_
                refine z_iload B dL_resolves_217 1 rfl ?_
                refine z_ialdn B (N := 24) (f := ((fL_fetches Gz (upd N1 17 ((N1 17) + 1)) E1 V1 L1 X1 H1 i nx).2.2.1)) (k0 := (fL_slot ((fL_fetches Gz (upd N1 17 ((N1 17) + 1)) E1 V1 L1 X1 H1 i nx).2.1) i nx).toNatClampNeg) (v := (((fL_fetches Gz (upd N1 17 ((N1 17) + 1)) E1 V1 L1 X1 H1 i nx).2.2.1) ((fL_slot ((fL_fetches Gz (upd N1 17 ((N1 17) + 1)) E1 V1 L1 X1 H1 i nx).2.1) i nx).toNatClampNeg))) 3 0 rfl rfl (z_ofN (z_slO hi4) c12) rfl rfl dL_resolves_219 ?_
                refine z_ifle B 230 dL_resolves_220 (by decide) (fun c14 => ?_) (fun c14 => ?_)
                · refine z_aload_n B dL_resolves_230 5 rfl ?_
                  refine z_iload B dL_resolves_231 1 rfl ?_
                  refine z_ialdn B (N := 24) (f := ((fL_fetches Gz (upd N1 17 ((N1 17) + 1)) E1 V1 L1 X1 H1 i nx).2.2.1)) (k0 := (fL_slot ((fL_fetches Gz (upd N1 17 ((N1 17) + 1)) E1 V1 L1 X1 H1 i nx).2.1) i nx).toNatClampNeg) (v := (((fL_fetches Gz (upd N1 17 ((N1 17) + 1)) E1 V1 L1 X1 H1 i nx).2.2.1) ((fL_slot ((fL_fetches Gz (upd N1 17 ((N1 17) + 1)) E1 V1 L1 X1 H1 i nx).2.1) i nx).toNatClampNeg))) 3 0 rfl rfl (z_ofN (z_slO hi4) c12) rfl rfl dL_resolves_233 ?_
                  refine z_ifne B 241 dL_resolves_234 (by decide) (fun _ => ?_) (fun h => absurd (z_s0 c13 c14) h)
                  refine z_iconst B (v := (-1)) dL_resolves_237 rfl ?_
                  refine z_goto B (tgt := 243) dL_resolves_238 (by decide) ?_
                  refine z_istore B (lv' := [(12, .int (-1)), (14, .int 0), (15, .int (fL_slot ((fL_fetches Gz (upd N1 17 ((N1 17) + 1)) E1 V1 L1 X1 H1 i nx).2.1) i nx)), (0, .ref pz), (1, .ref pn), (2, .ref pe), (3, .ref pv), (4, .ref pl), (5, .ref px), (6, .ref ph), (7, .int (nI i)), (8, .int x2), (9, .ref qu), (10, .ref qw), (11, .int mn), (13, .int nx)]) dL_resolves_243 (by decide) rfl ?_
                  refine z_iload B dL_resolves_245 1 rfl ?_
                  refine z_ifeq B 259 dL_resolves_247 (by decide) (fun _ => ?_) (fun h => absurd (by decide) h)
                  refine z_iload B dL_resolves_259 15 rfl ?_
                  refine z_istore B (lv' := [(13, .int nx), (12, .int (-1)), (14, .int 0), (15, .int (fL_slot ((fL_fetches Gz (upd N1 17 ((N1 17) + 1)) E1 V1 L1 X1 H1 i nx).2.1) i nx)), (0, .ref pz), (1, .ref pn), (2, .ref pe), (3, .ref pv), (4, .ref pl), (5, .ref px), (6, .ref ph), (7, .int (nI i)), (8, .int x2), (9, .ref qu), (10, .ref qw), (11, .int mn)]) dL_resolves_261 (by decide) rfl ?_
                  refine z_goto B (tgt := 41) dL_resolves_263 (by decide) ?_
                  refine z_lsub [4, 5, 6, 7, 8, 9, 10, 11, 12, 13, 14, 15, 1, 0, 2] rfl ?_
                  have hF : fL_resolves Gz Gn Ge Gv Gl Gx Gh i x2 = fL_resolves_L41 Gz Gn Ge Gv Gl Gx Gh i x2 n (a + 1) mn (-1) nx 0 ((fL_fetches Gz (upd N1 17 ((N1 17) + 1)) E1 V1 L1 X1 H1 i nx).1) ((fL_fetches Gz (upd N1 17 ((N1 17) + 1)) E1 V1 L1 X1 H1 i nx).2.1) ((fL_fetches Gz (upd N1 17 ((N1 17) + 1)) E1 V1 L1 X1 H1 i nx).2.2.1) ((fL_fetches Gz (upd N1 17 ((N1 17) + 1)) E1 V1 L1 X1 H1 i nx).2.2.2.1) ((fL_fetches Gz (upd N1 17 ((N1 17) + 1)) E1 V1 L1 X1 H1 i nx).2.2.2.2.1) ((fL_fetches Gz (upd N1 17 ((N1 17) + 1)) E1 V1 L1 X1 H1 i nx).2.2.2.2.2) U En := (hF0).trans ((if_neg c4).trans ((if_neg c5).trans ((if_pos c10).trans ((if_pos c11).trans ((if_neg c12).trans ((if_pos c13).trans (if_pos c14)))))))
                  exact ih (a + 1) qu qw mn (-1) nx 0 ((fL_fetches Gz (upd N1 17 ((N1 17) + 1)) E1 V1 L1 X1 H1 i nx).1) ((fL_fetches Gz (upd N1 17 ((N1 17) + 1)) E1 V1 L1 X1 H1 i nx).2.1) ((fL_fetches Gz (upd N1 17 ((N1 17) + 1)) E1 V1 L1 X1 H1 i nx).2.2.1) ((fL_fetches Gz (upd N1 17 ((N1 17) + 1)) E1 V1 L1 X1 H1 i nx).2.2.2.1) ((fL_fetches Gz (upd N1 17 ((N1 17) + 1)) E1 V1 L1 X1 H1 i nx).2.2.2.2.1) ((fL_fetches Gz (upd N1 17 ((N1 17) + 1)) E1 V1 L1 X1 H1 i nx).2.2.2.2.2) U En (by omega) (by show _ = nI (a + 1); simp only [z_ftN (show (17 : Nat) ≠ 11 by decide) (show (17 : Nat) ≠ 18 by decide), pk_us, pk_un (show (17 : Nat) ≠ 16 by decide), hc]; exact nI_1 a) hnx (z_ftV hnx hz hV) (z_mK hm) hU hF
                · refine z_aload_n B dL_resolves_223 5 rfl ?_
                  refine z_iload B dL_resolves_224 1 rfl ?_
                  refine z_ialdn B (N := 24) (f := ((fL_fetches Gz (upd N1 17 ((N1 17) + 1)) E1 V1 L1 X1 H1 i nx).2.2.1)) (k0 := (fL_slot ((fL_fetches Gz (upd N1 17 ((N1 17) + 1)) E1 V1 L1 X1 H1 i nx).2.1) i nx).toNatClampNeg) (v := (((fL_fetches Gz (upd N1 17 ((N1 17) + 1)) E1 V1 L1 X1 H1 i nx).2.2.1) ((fL_slot ((fL_fetches Gz (upd N1 17 ((N1 17) + 1)) E1 V1 L1 X1 H1 i nx).2.1) i nx).toNatClampNeg))) 3 0 rfl rfl (z_ofN (z_slO hi4) c12) rfl rfl dL_resolves_226 ?_
                  refine z_goto B (tgt := 243) dL_resolves_227 (by decide) ?_
                  refine z_istore B (lv' := [(12, .int (((fL_fetches Gz (upd N1 17 ((N1 17) + 1)) E1 V1 L1 X1 H1 i nx).2.2.1) ((fL_slot ((fL_fetches Gz (upd N1 17 ((N1 17) + 1)) E1 V1 L1 X1 H1 i nx).2.1) i nx).toNatClampNeg))), (14, .int 0), (15, .int (fL_slot ((fL_fetches Gz (upd N1 17 ((N1 17) + 1)) E1 V1 L1 X1 H1 i nx).2.1) i nx)), (0, .ref pz), (1, .ref pn), (2, .ref pe), (3, .ref pv), (4, .ref pl), (5, .ref px), (6, .ref ph), (7, .int (nI i)), (8, .int x2), (9, .ref qu), (10, .ref qw), (11, .int mn), (13, .int nx)]) dL_resolves_243 (by decide) rfl ?_
                  refine z_iload B dL_resolves_245 1 rfl ?_
                  refine z_ifeq B 259 dL_resolves_247 (by decide) (fun _ => ?_) (fun h => absurd (by decide) h)
                  refine z_iload B dL_resolves_259 15 rfl ?_
                  refine z_istore B (lv' := [(13, .int nx), (12, .int (((fL_fetches Gz (upd N1 17 ((N1 17) + 1)) E1 V1 L1 X1 H1 i nx).2.2.1) ((fL_slot ((fL_fetches Gz (upd N1 17 ((N1 17) + 1)) E1 V1 L1 X1 H1 i nx).2.1) i nx).toNatClampNeg))), (14, .int 0), (15, .int (fL_slot ((fL_fetches Gz (upd N1 17 ((N1 17) + 1)) E1 V1 L1 X1 H1 i nx).2.1) i nx)), (0, .ref pz), (1, .ref pn), (2, .ref pe), (3, .ref pv), (4, .ref pl), (5, .ref px), (6, .ref ph), (7, .int (nI i)), (8, .int x2), (9, .ref qu), (10, .ref qw), (11, .int mn)]) dL_resolves_261 (by decide) rfl ?_
                  refine z_goto B (tgt := 41) dL_resolves_263 (by decide) ?_
                  refine z_lsub [4, 5, 6, 7, 8, 9, 10, 11, 12, 13, 14, 15, 1, 0, 2] rfl ?_
                  have hF : fL_resolves Gz Gn Ge Gv Gl Gx Gh i x2 = fL_resolves_L41 Gz Gn Ge Gv Gl Gx Gh i x2 n (a + 1) mn (((fL_fetches Gz (upd N1 17 ((N1 17) + 1)) E1 V1 L1 X1 H1 i nx).2.2.1) ((fL_slot ((fL_fetches Gz (upd N1 17 ((N1 17) + 1)) E1 V1 L1 X1 H1 i nx).2.1) i nx).toNatClampNeg)) nx 0 ((fL_fetches Gz (upd N1 17 ((N1 17) + 1)) E1 V1 L1 X1 H1 i nx).1) ((fL_fetches Gz (upd N1 17 ((N1 17) + 1)) E1 V1 L1 X1 H1 i nx).2.1) ((fL_fetches Gz (upd N1 17 ((N1 17) + 1)) E1 V1 L1 X1 H1 i nx).2.2.1) ((fL_fetches Gz (upd N1 17 ((N1 17) + 1)) E1 V1 L1 X1 H1 i nx).2.2.2.1) ((fL_fetches Gz (upd N1 17 ((N1 17) + 1)) E1 V1 L1 X1 H1 i nx).2.2.2.2.1) ((fL_fetches Gz (upd N1 17 ((N1 17) + 1)) E1 V1 L1 X1 H1 i nx).2.2.2.2.2) U En := (hF0).trans ((if_neg c4).trans ((if_neg c5).trans ((if_pos c10).trans ((if_pos c11).trans ((if_neg c12).trans ((if_pos c13).trans (if_neg c14)))))))
                  exact ih (a + 1) qu qw mn (((fL_fetches Gz (upd N1 17 ((N1 17) + 1)) E1 V1 L1 X1 H1 i nx).2.2.1) ((fL_slot ((fL_fetches Gz (upd N1 17 ((N1 17) + 1)) E1 V1 L1 X1 H1 i nx).2.1) i nx).toNatClampNeg)) nx 0 ((fL_fetches Gz (upd N1 17 ((N1 17) + 1)) E1 V1 L1 X1 H1 i nx).1) ((fL_fetches Gz (upd N1 17 ((N1 17) + 1)) E1 V1 L1 X1 H1 i nx).2.1) ((fL_fetches Gz (upd N1 17 ((N1 17) + 1)) E1 V1 L1 X1 H1 i nx).2.2.1) ((fL_fetches Gz (upd N1 17 ((N1 17) + 1)) E1 V1 L1 X1 H1 i nx).2.2.2.1) ((fL_fetches Gz (upd N1 17 ((N1 17) + 1)) E1 V1 L1 X1 H1 i nx).2.2.2.2.1) ((fL_fetches Gz (upd N1 17 ((N1 17) + 1)) E1 V1 L1 X1 H1 i nx).2.2.2.2.2) U En (by omega) (by show _ = nI (a + 1); simp only [z_ftN (show (17 : Nat) ≠ 11 by decide) (show (17 : Nat) ≠ 18 by decide), pk_us, pk_un (show (17 : Nat) ≠ 16 by decide), hc]; exact nI_1 a) hnx (z_ftV hnx hz hV) (z_mK hm) hU hF
              · refine z_iconst B (v := 1) dL_resolves_199 rfl ?_
                refine z_goto B (tgt := 204) dL_resolves_200 (by decide) ?_
                refine z_istore B (lv' := [(14, .int 1), (15, .int (fL_slot ((fL_fetches Gz (upd N1 17 ((N1 17) + 1)) E1 V1 L1 X1 H1 i nx).2.1) i nx)), (0, .ref pz), (1, .ref pn), (2, .ref pe), (3, .ref pv), (4, .ref pl), (5, .ref px), (6, .ref ph), (7, .int (nI i)), (8, .int x2), (9, .ref qu), (10, .ref qw), (11, .int mn), (12, .int an), (13, .int nx)]) dL_resolves_204 (by decide) rfl ?_
                refine z_iload B dL_resolves_206 1 rfl ?_
                refine z_ifge B 216 dL_resolves_208 (by decide) (fun _ => ?_) (fun h => absurd (z_s3 c12) h)
                refine z_aload_n B dL_resolves_216 5 rfl ?_
                refine z_iload B dL_resolves_217 1 rfl ?_
                refine z_ialdn B (N := 24) (f := ((fL_fetches Gz (upd N1 17 ((N1 17) + 1)) E1 V1 L1 X1 H1 i nx).2.2.1)) (k0 := (fL_slot ((fL_fetches Gz (upd N1 17 ((N1 17) + 1)) E1 V1 L1 X1 H1 i nx).2.1) i nx).toNatClampNeg) (v := (((fL_fetches Gz (upd N1 17 ((N1 17) + 1)) E1 V1 L1 X1 H1 i nx).2.2.1) ((fL_slot ((fL_fetches Gz (upd N1 17 ((N1 17) + 1)) E1 V1 L1 X1 H1 i nx).2.1) i nx).toNatClampNeg))) 3 0 rfl rfl (z_ofN (z_slO hi4) c12) rfl rfl dL_resolves_219 ?_
                refine z_ifle B 230 dL_resolves_220 (by decide) (fun _ => ?_) (fun h => absurd (z_s1 c13) h)
                refine z_aload_n B dL_resolves_230 5 rfl ?_
                refine z_iload B dL_resolves_231 1 rfl ?_
                refine z_ialdn B (N := 24) (f := ((fL_fetches Gz (upd N1 17 ((N1 17) + 1)) E1 V1 L1 X1 H1 i nx).2.2.1)) (k0 := (fL_slot ((fL_fetches Gz (upd N1 17 ((N1 17) + 1)) E1 V1 L1 X1 H1 i nx).2.1) i nx).toNatClampNeg) (v := (((fL_fetches Gz (upd N1 17 ((N1 17) + 1)) E1 V1 L1 X1 H1 i nx).2.2.1) ((fL_slot ((fL_fetches Gz (upd N1 17 ((N1 17) + 1)) E1 V1 L1 X1 H1 i nx).2.1) i nx).toNatClampNeg))) 3 0 rfl rfl (z_ofN (z_slO hi4) c12) rfl rfl dL_resolves_233 ?_
                refine z_ifne B 241 dL_resolves_234 (by decide) (fun h => absurd h (z_s2 c13)) (fun _ => ?_)
                refine z_bipush B (v := (-2)) dL_resolves_241 rfl ?_
                refine z_istore B (lv' := [(12, .int (-2)), (14, .int 1), (15, .int (fL_slot ((fL_fetches Gz (upd N1 17 ((N1 17) + 1)) E1 V1 L1 X1 H1 i nx).2.1) i nx)), (0, .ref pz), (1, .ref pn), (2, .ref pe), (3, .ref pv), (4, .ref pl), (5, .ref px), (6, .ref ph), (7, .int (nI i)), (8, .int x2), (9, .ref qu), (10, .ref qw), (11, .int mn), (13, .int nx)]) dL_resolves_243 (by decide) rfl ?_
                refine z_iload B dL_resolves_245 1 rfl ?_
                refine z_ifeq B 259 dL_resolves_247 (by decide) (fun h => absurd h (by decide)) (fun _ => ?_)
                refine z_iconst B (v := (-1)) dL_resolves_250 rfl ?_
                refine z_aload_n B dL_resolves_251 6 rfl ?_
                refine z_iload B dL_resolves_252 2 rfl ?_
                refine z_ialdn B (N := 24) (f := ((fL_fetches Gz (upd N1 17 ((N1 17) + 1)) E1 V1 L1 X1 H1 i nx).2.2.1)) (k0 := (fL_slot ((fL_fetches Gz (upd N1 17 ((N1 17) + 1)) E1 V1 L1 X1 H1 i nx).2.1) i nx).toNatClampNeg) (v := (((fL_fetches Gz (upd N1 17 ((N1 17) + 1)) E1 V1 L1 X1 H1 i nx).2.2.1) ((fL_slot ((fL_fetches Gz (upd N1 17 ((N1 17) + 1)) E1 V1 L1 X1 H1 i nx).2.1) i nx).toNatClampNeg))) 3 0 rfl rfl (z_ofN (z_slO hi4) c12) rfl rfl dL_resolves_254 ?_
                refine z_isub B dL_resolves_255 ?_
                refine z_goto B (tgt := 261) dL_resolves_256 (by decide) ?_
                refine z_istore B (lv' := [(13, .int ((-1) - (((fL_fetches Gz (upd N1 17 ((N1 17) + 1)) E1 V1 L1 X1 H1 i nx).2.2.1) ((fL_slot ((fL_fetches Gz (upd N1 17 ((N1 17) + 1)) E1 V1 L1 X1 H1 i nx).2.1) i nx).toNatClampNeg)))), (12, .int (-2)), (14, .int 1), (15, .int (fL_slot ((fL_fetches Gz (upd N1 17 ((N1 17) + 1)) E1 V1 L1 X1 H1 i nx).2.1) i nx)), (0, .ref pz), (1, .ref pn), (2, .ref pe), (3, .ref pv), (4, .ref pl), (5, .ref px), (6, .ref ph), (7, .int (nI i)), (8, .int x2), (9, .ref qu), (10, .ref qw), (11, .int mn)]) dL_resolves_261 (by decide) rfl ?_
                refine z_goto B (tgt := 41) dL_resolves_263 (by decide) ?_
                refine z_lsub [4, 5, 6, 7, 8, 9, 10, 11, 12, 13, 14, 15, 1, 0, 2] rfl ?_
                have hF : fL_resolves Gz Gn Ge Gv Gl Gx Gh i x2 = fL_resolves_L41 Gz Gn Ge Gv Gl Gx Gh i x2 n (a + 1) mn (-2) ((-1) - (((fL_fetches Gz (upd N1 17 ((N1 17) + 1)) E1 V1 L1 X1 H1 i nx).2.2.1) ((fL_slot ((fL_fetches Gz (upd N1 17 ((N1 17) + 1)) E1 V1 L1 X1 H1 i nx).2.1) i nx).toNatClampNeg))) 1 ((fL_fetches Gz (upd N1 17 ((N1 17) + 1)) E1 V1 L1 X1 H1 i nx).1) ((fL_fetches Gz (upd N1 17 ((N1 17) + 1)) E1 V1 L1 X1 H1 i nx).2.1) ((fL_fetches Gz (upd N1 17 ((N1 17) + 1)) E1 V1 L1 X1 H1 i nx).2.2.1) ((fL_fetches Gz (upd N1 17 ((N1 17) + 1)) E1 V1 L1 X1 H1 i nx).2.2.2.1) ((fL_fetches Gz (upd N1 17 ((N1 17) + 1)) E1 V1 L1 X1 H1 i nx).2.2.2.2.1) ((fL_fetches Gz (upd N1 17 ((N1 17) + 1)) E1 V1 L1 X1 H1 i nx).2.2.2.2.2) U En := (hF0).trans ((if_neg c4).trans ((if_neg c5).trans ((if_pos c10).trans ((if_pos c11).trans ((if_neg c12).trans (if_neg c13))))))
                exact ih (a + 1) qu qw mn (-2) ((-1) - (((fL_fetches Gz (upd N1 17 ((N1 17) + 1)) E1 V1 L1 X1 H1 i nx).2.2.1) ((fL_slot ((fL_fetches Gz (upd N1 17 ((N1 17) + 1)) E1 V1 L1 X1 H1 i nx).2.1) i nx).toNatClampNeg))) 1 ((fL_fetches Gz (upd N1 17 ((N1 17) + 1)) E1 V1 L1 X1 H1 i nx).1) ((fL_fetches Gz (upd N1 17 ((N1 17) + 1)) E1 V1 L1 X1 H1 i nx).2.1) ((fL_fetches Gz (upd N1 17 ((N1 17) + 1)) E1 V1 L1 X1 H1 i nx).2.2.1) ((fL_fetches Gz (upd N1 17 ((N1 17) + 1)) E1 V1 L1 X1 H1 i nx).2.2.2.1) ((fL_fetches Gz (upd N1 17 ((N1 17) + 1)) E1 V1 L1 X1 H1 i nx).2.2.2.2.1) ((fL_fetches Gz (upd N1 17 ((N1 17) + 1)) E1 V1 L1 X1 H1 i nx).2.2.2.2.2) U En (by omega) (by show _ = nI (a + 1); simp only [z_ftN (show (17 : Nat) ≠ 11 by decide) (show (17 : Nat) ≠ 18 by decide), pk_us, pk_un (show (17 : Nat) ≠ 16 by decide), hc]; exact nI_1 a) ((z_ftV hnx hz hV) _ (z_lt0 c13)) (z_ftV hnx hz hV) (z_mK hm) hU hF
          · refine z_iload B dL_resolves_157 0 rfl ?_
            refine z_iflt B 184 dL_resolves_159 (by decide) (fun h => absurd h c5) (fun _ => ?_)
            refine z_aload_n B dL_resolves_162 2 rfl ?_
            refine z_iconst B (v := 0) dL_resolves_163 rfl ?_
            refine z_ialdn B (N := 20) (f := (upd N1 17 ((N1 17) + 1))) (k0 := 0) (v := (N1 0)) 1 0 rfl rfl (z_vpc (k := 0) rfl (by decide)) rfl rfl dL_resolves_164 ?_
            refine z_aload B dL_resolves_165 6 rfl ?_
            refine z_iload B dL_resolves_167 0 rfl ?_
            refine z_ialdn B (N := 24) (f := X1) (k0 := (fL_slot E1 i nx).toNatClampNeg) (v := (X1 ((fL_slot E1 i nx).toNatClampNeg))) 5 0 rfl rfl (z_ofN (z_slO hi4) c5) rfl rfl dL_resolves_169 ?_
            refine z_isub B dL_resolves_170 ?_
            refine z_bipush B (v := 100) dL_resolves_171 rfl ?_
            refine z_icge B 184 dL_resolves_173 (by decide) (fun c15 => ?_) (fun c15 => ?_)
            · refine z_iconst B (v := (-1)) dL_resolves_184 rfl ?_
              refine z_istore B (lv' := [(15, .int (-1)), (0, .ref pz), (1, .ref pn), (2, .ref pe), (3, .ref pv), (4, .ref pl), (5, .ref px), (6, .ref ph), (7, .int (nI i)), (8, .int x2), (9, .ref qu), (10, .ref qw), (11, .int mn), (12, .int an), (13, .int nx), (14, .int go)]) dL_resolves_185 (by decide) rfl ?_
              refine z_iload B dL_resolves_187 0 rfl ?_
              refine z_iflt B 203 dL_resolves_189 (by decide) (fun _ => ?_) (fun h => absurd (by decide) h)
              refine z_iconst B (v := 0) dL_resolves_203 rfl ?_
              refine z_istore B (lv' := [(14, .int 0), (15, .int (-1)), (0, .ref pz), (1, .ref pn), (2, .ref pe), (3, .ref pv), (4, .ref pl), (5, .ref px), (6, .ref ph), (7, .int (nI i)), (8, .int x2), (9, .ref qu), (10, .ref qw), (11, .int mn), (12, .int an), (13, .int nx)]) dL_resolves_204 (by decide) rfl ?_
              refine z_iload B dL_resolves_206 1 rfl ?_
              refine z_ifge B 216 dL_resolves_208 (by decide) (fun h => absurd h (by decide)) (fun _ => ?_)
              refine z_bipush B (v := (-2)) dL_resolves_211 rfl ?_
              refine z_goto B (tgt := 243) dL_resolves_213 (by decide) ?_
              refine z_istore B (lv' := [(12, .int (-2)), (14, .int 0), (15, .int (-1)), (0, .ref pz), (1, .ref pn), (2, .ref pe), (3, .ref pv), (4, .ref pl), (5, .ref px), (6, .ref ph), (7, .int (nI i)), (8, .int x2), (9, .ref qu), (10, .ref qw), (11, .int mn), (13, .int nx)]) dL_resolves_243 (by decide) rfl ?_
              refine z_iload B dL_resolves_245 1 rfl ?_
              refine z_ifeq B 259 dL_resolves_247 (by decide) (fun _ => ?_) (fun h => absurd (by decide) h)
              refine z_iload B dL_resolves_259 15 rfl ?_
              refine z_istore B (lv' := [(13, .int nx), (12, .int (-2)), (14, .int 0), (15, .int (-1)), (0, .ref pz), (1, .ref pn), (2, .ref pe), (3, .ref pv), (4, .ref pl), (5, .ref px), (6, .ref ph), (7, .int (nI i)), (8, .int x2), (9, .ref qu), (10, .ref qw), (11, .int mn)]) dL_resolves_261 (by decide) rfl ?_
              refine z_goto B (tgt := 41) dL_resolves_263 (by decide) ?_
              refine z_lsub [4, 5, 6, 7, 8, 9, 10, 11, 12, 13, 14, 15, 1, 0, 2] rfl ?_
              have hF : fL_resolves Gz Gn Ge Gv Gl Gx Gh i x2 = fL_resolves_L41 Gz Gn Ge Gv Gl Gx Gh i x2 n (a + 1) mn (-2) nx 0 (upd N1 17 ((N1 17) + 1)) E1 V1 L1 X1 H1 U En := (hF0).trans ((if_neg c4).trans ((if_neg c5).trans ((if_pos c10).trans ((if_neg c11).trans (if_pos c15)))))
              exact ih (a + 1) qu qw mn (-2) nx 0 (upd N1 17 ((N1 17) + 1)) E1 V1 L1 X1 H1 U En (by omega) (by show _ = nI (a + 1); simp only [z_ftN (show (17 : Nat) ≠ 11 by decide) (show (17 : Nat) ≠ 18 by decide), pk_us, pk_un (show (17 : Nat) ≠ 16 by decide), hc]; exact nI_1 a) hnx hV (z_mK hm) hU hF
            · refine z_aload_n B dL_resolves_176 2 rfl ?_
              refine z_bipush B (v := 16) dL_resolves_177 rfl ?_
              refine z_iconst B (v := 1) dL_resolves_179 rfl ?_
              refine z_iastn B (N := 20) (f := (upd N1 17 ((N1 17) + 1))) (k0 := 16) 1 0 rfl rfl (z_vpc (k := 16) rfl (by decide)) rfl (bs' := [[(pz, .inl (zI K, 32, .inl Gz))], [(pn, .inl (zI K, 20, .inl (upd (upd N1 17 ((N1 17) + 1)) 16 1)))], [(pe, .inl (zI K, 24, .inl E1))], [(pv, .inl (zI K, 24, .inl V1))], [(pl, .inl (zI K, 24, .inl L1))], [(px, .inl (zI K, 24, .inl X1))], [(ph, .inl (zI K, 24, .inl H1))], [(qu, .inl (zI K, 6, .inl U))], [(qw, .inl (zI K, 6, .inl En))]]) rfl dL_resolves_180 ?_
              refine z_goto B (tgt := 187) dL_resolves_181 (by decide) ?_
              refine z_iload B dL_resolves_187 0 rfl ?_
              refine z_iflt B 203 dL_resolves_189 (by decide) (fun h => absurd h c5) (fun _ => ?_)
              refine z_aload_n B dL_resolves_192 4 rfl ?_
              refine z_iload B dL_resolves_193 0 rfl ?_
              refine z_ialdn B (N := 24) (f := V1) (k0 := (fL_slot E1 i nx).toNatClampNeg) (v := (V1 ((fL_slot E1 i nx).toNatClampNeg))) 3 0 rfl rfl (z_ofN (z_slO hi4) c5) rfl rfl dL_resolves_195 ?_
              refine z_ifge B 203 dL_resolves_196 (by decide) (fun c16 => ?_) (fun c16 => ?_)
              · refine z_iconst B (v := 0) dL_resolves_203 rfl ?_
                refine z_istore B (lv' := [(14, .int 0), (15, .int (fL_slot E1 i nx)), (0, .ref pz), (1, .ref pn), (2, .ref pe), (3, .ref pv), (4, .ref pl), (5, .ref px), (6, .ref ph), (7, .int (nI i)), (8, .int x2), (9, .ref qu), (10, .ref qw), (11, .int mn), (12, .int an), (13, .int nx)]) dL_resolves_204 (by decide) rfl ?_
                refine z_iload B dL_resolves_206 1 rfl ?_
                refine z_ifge B 216 dL_resolves_208 (by decide) (fun _ => ?_) (fun h => absurd (z_s3 c5) h)
                refine z_aload_n B dL_resolves_216 5 rfl ?_
                refine z_iload B dL_resolves_217 1 rfl ?_
                refine z_ialdn B (N := 24) (f := V1) (k0 := (fL_slot E1 i nx).toNatClampNeg) (v := (V1 ((fL_slot E1 i nx).toNatClampNeg))) 3 0 rfl rfl (z_ofN (z_slO hi4) c5) rfl rfl dL_resolves_219 ?_
                refine z_ifle B 230 dL_resolves_220 (by decide) (fun c17 => ?_) (fun c17 => ?_)
                · refine z_aload_n B dL_resolves_230 5 rfl ?_
                  refine z_iload B dL_resolves_231 1 rfl ?_
                  refine z_ialdn B (N := 24) (f := V1) (k0 := (fL_slot E1 i nx).toNatClampNeg) (v := (V1 ((fL_slot E1 i nx).toNatClampNeg))) 3 0 rfl rfl (z_ofN (z_slO hi4) c5) rfl rfl dL_resolves_233 ?_
                  refine z_ifne B 241 dL_resolves_234 (by decide) (fun _ => ?_) (fun h => absurd (z_s0 c16 c17) h)
                  refine z_iconst B (v := (-1)) dL_resolves_237 rfl ?_
                  refine z_goto B (tgt := 243) dL_resolves_238 (by decide) ?_
                  refine z_istore B (lv' := [(12, .int (-1)), (14, .int 0), (15, .int (fL_slot E1 i nx)), (0, .ref pz), (1, .ref pn), (2, .ref pe), (3, .ref pv), (4, .ref pl), (5, .ref px), (6, .ref ph), (7, .int (nI i)), (8, .int x2), (9, .ref qu), (10, .ref qw), (11, .int mn), (13, .int nx)]) dL_resolves_243 (by decide) rfl ?_
                  refine z_iload B dL_resolves_245 1 rfl ?_
                  refine z_ifeq B 259 dL_resolves_247 (by decide) (fun _ => ?_) (fun h => absurd (by decide) h)
                  refine z_iload B dL_resolves_259 15 rfl ?_
                  refine z_istore B (lv' := [(13, .int nx), (12, .int (-1)), (14, .int 0), (15, .int (fL_slot E1 i nx)), (0, .ref pz), (1, .ref pn), (2, .ref pe), (3, .ref pv), (4, .ref pl), (5, .ref px), (6, .ref ph), (7, .int (nI i)), (8, .int x2), (9, .ref qu), (10, .ref qw), (11, .int mn)]) dL_resolves_261 (by decide) rfl ?_
                  refine z_goto B (tgt := 41) dL_resolves_263 (by decide) ?_
                  refine z_lsub [4, 5, 6, 7, 8, 9, 10, 11, 12, 13, 14, 15, 1, 0, 2] rfl ?_
                  have hF : fL_resolves Gz Gn Ge Gv Gl Gx Gh i x2 = fL_resolves_L41 Gz Gn Ge Gv Gl Gx Gh i x2 n (a + 1) mn (-1) nx 0 (upd (upd N1 17 ((N1 17) + 1)) 16 1) E1 V1 L1 X1 H1 U En := (hF0).trans ((if_neg c4).trans ((if_neg c5).trans ((if_pos c10).trans ((if_neg c11).trans ((if_neg c15).trans ((if_pos c16).trans (if_pos c17)))))))
                  exact ih (a + 1) qu qw mn (-1) nx 0 (upd (upd N1 17 ((N1 17) + 1)) 16 1) E1 V1 L1 X1 H1 U En (by omega) (by show _ = nI (a + 1); simp only [z_ftN (show (17 : Nat) ≠ 11 by decide) (show (17 : Nat) ≠ 18 by decide), pk_us, pk_un (show (17 : Nat) ≠ 16 by decide), hc]; exact nI_1 a) hnx hV (z_mK hm) hU hF
                · refine z_aload_n B dL_resolves_223 5 rfl ?_
                  refine z_iload B dL_resolves_224 1 rfl ?_
                  refine z_ialdn B (N := 24) (f := V1) (k0 := (fL_slot E1 i nx).toNatClampNeg) (v := (V1 ((fL_slot E1 i nx).toNatClampNeg))) 3 0 rfl rfl (z_ofN (z_slO hi4) c5) rfl rfl dL_resolves_226 ?_
                  refine z_goto B (tgt := 243) dL_resolves_227 (by decide) ?_
                  refine z_istore B (lv' := [(12, .int (V1 ((fL_slot E1 i nx).toNatClampNeg))), (14, .int 0), (15, .int (fL_slot E1 i nx)), (0, .ref pz), (1, .ref pn), (2, .ref pe), (3, .ref pv), (4, .ref pl), (5, .ref px), (6, .ref ph), (7, .int (nI i)), (8, .int x2), (9, .ref qu), (10, .ref qw), (11, .int mn), (13, .int nx)]) dL_resolves_243 (by decide) rfl ?_
                  refine z_iload B dL_resolves_245 1 rfl ?_
                  refine z_ifeq B 259 dL_resolves_247 (by decide) (fun _ => ?_) (fun h => absurd (by decide) h)
                  refine z_iload B dL_resolves_259 15 rfl ?_
                  refine z_istore B (lv' := [(13, .int nx), (12, .int (V1 ((fL_slot E1 i nx).toNatClampNeg))), (14, .int 0), (15, .int (fL_slot E1 i nx)), (0, .ref pz), (1, .ref pn), (2, .ref pe), (3, .ref pv), (4, .ref pl), (5, .ref px), (6, .ref ph), (7, .int (nI i)), (8, .int x2), (9, .ref qu), (10, .ref qw), (11, .int mn)]) dL_resolves_261 (by decide) rfl ?_
                  refine z_goto B (tgt := 41) dL_resolves_263 (by decide) ?_
                  refine z_lsub [4, 5, 6, 7, 8, 9, 10, 11, 12, 13, 14, 15, 1, 0, 2] rfl ?_
                  have hF : fL_resolves Gz Gn Ge Gv Gl Gx Gh i x2 = fL_resolves_L41 Gz Gn Ge Gv Gl Gx Gh i x2 n (a + 1) mn (V1 ((fL_slot E1 i nx).toNatClampNeg)) nx 0 (upd (upd N1 17 ((N1 17) + 1)) 16 1) E1 V1 L1 X1 H1 U En := (hF0).trans ((if_neg c4).trans ((if_neg c5).trans ((if_pos c10).trans ((if_neg c11).trans ((if_neg c15).trans ((if_pos c16).trans (if_neg c17)))))))
                  exact ih (a + 1) qu qw mn (V1 ((fL_slot E1 i nx).toNatClampNeg)) nx 0 (upd (upd N1 17 ((N1 17) + 1)) 16 1) E1 V1 L1 X1 H1 U En (by omega) (by show _ = nI (a + 1); simp only [z_ftN (show (17 : Nat) ≠ 11 by decide) (show (17 : Nat) ≠ 18 by decide), pk_us, pk_un (show (17 : Nat) ≠ 16 by decide), hc]; exact nI_1 a) hnx hV (z_mK hm) hU hF
              · refine z_iconst B (v := 1) dL_resolves_199 rfl ?_
                refine z_goto B (tgt := 204) dL_resolves_200 (by decide) ?_
                refine z_istore B (lv' := [(14, .int 1), (15, .int (fL_slot E1 i nx)), (0, .ref pz), (1, .ref pn), (2, .ref pe), (3, .ref pv), (4, .ref pl), (5, .ref px), (6, .ref ph), (7, .int (nI i)), (8, .int x2), (9, .ref qu), (10, .ref qw), (11, .int mn), (12, .int an), (13, .int nx)]) dL_resolves_204 (by decide) rfl ?_
                refine z_iload B dL_resolves_206 1 rfl ?_
                refine z_ifge B 216 dL_resolves_208 (by decide) (fun _ => ?_) (fun h => absurd (z_s3 c5) h)
                refine z_aload_n B dL_resolves_216 5 rfl ?_
                refine z_iload B dL_resolves_217 1 rfl ?_
                refine z_ialdn B (N := 24) (f := V1) (k0 := (fL_slot E1 i nx).toNatClampNeg) (v := (V1 ((fL_slot E1 i nx).toNatClampNeg))) 3 0 rfl rfl (z_ofN (z_slO hi4) c5) rfl rfl dL_resolves_219 ?_
                refine z_ifle B 230 dL_resolves_220 (by decide) (fun _ => ?_) (fun h => absurd (z_s1 c16) h)
                refine z_aload_n B dL_resolves_230 5 rfl ?_
                refine z_iload B dL_resolves_231 1 rfl ?_
                refine z_ialdn B (N := 24) (f := V1) (k0 := (fL_slot E1 i nx).toNatClampNeg) (v := (V1 ((fL_slot E1 i nx).toNatClampNeg))) 3 0 rfl rfl (z_ofN (z_slO hi4) c5) rfl rfl dL_resolves_233 ?_
                refine z_ifne B 241 dL_resolves_234 (by decide) (fun h => absurd h (z_s2 c16)) (fun _ => ?_)
                refine z_bipush B (v := (-2)) dL_resolves_241 rfl ?_
                refine z_istore B (lv' := [(12, .int (-2)), (14, .int 1), (15, .int (fL_slot E1 i nx)), (0, .ref pz), (1, .ref pn), (2, .ref pe), (3, .ref pv), (4, .ref pl), (5, .ref px), (6, .ref ph), (7, .int (nI i)), (8, .int x2), (9, .ref qu), (10, .ref qw), (11, .int mn), (13, .int nx)]) dL_resolves_243 (by decide) rfl ?_
                refine z_iload B dL_resolves_245 1 rfl ?_
                refine z_ifeq B 259 dL_resolves_247 (by decide) (fun h => absurd h (by decide)) (fun _ => ?_)
                refine z_iconst B (v := (-1)) dL_resolves_250 rfl ?_
                refine z_aload_n B dL_resolves_251 6 rfl ?_
                refine z_iload B dL_resolves_252 2 rfl ?_
                refine z_ialdn B (N := 24) (f := V1) (k0 := (fL_slot E1 i nx).toNatClampNeg) (v := (V1 ((fL_slot E1 i nx).toNatClampNeg))) 3 0 rfl rfl (z_ofN (z_slO hi4) c5) rfl rfl dL_resolves_254 ?_
                refine z_isub B dL_resolves_255 ?_
                refine z_goto B (tgt := 261) dL_resolves_256 (by decide) ?_
                refine z_istore B (lv' := [(13, .int ((-1) - (V1 ((fL_slot E1 i nx).toNatClampNeg)))), (12, .int (-2)), (14, .int 1), (15, .int (fL_slot E1 i nx)), (0, .ref pz), (1, .ref pn), (2, .ref pe), (3, .ref pv), (4, .ref pl), (5, .ref px), (6, .ref ph), (7, .int (nI i)), (8, .int x2), (9, .ref qu), (10, .ref qw), (11, .int mn)]) dL_resolves_261 (by decide) rfl ?_
                refine z_goto B (tgt := 41) dL_resolves_263 (by decide) ?_
                refine z_lsub [4, 5, 6, 7, 8, 9, 10, 11, 12, 13, 14, 15, 1, 0, 2] rfl ?_
                have hF : fL_resolves Gz Gn Ge Gv Gl Gx Gh i x2 = fL_resolves_L41 Gz Gn Ge Gv Gl Gx Gh i x2 n (a + 1) mn (-2) ((-1) - (V1 ((fL_slot E1 i nx).toNatClampNeg))) 1 (upd (upd N1 17 ((N1 17) + 1)) 16 1) E1 V1 L1 X1 H1 U En := (hF0).trans ((if_neg c4).trans ((if_neg c5).trans ((if_pos c10).trans ((if_neg c11).trans ((if_neg c15).trans (if_neg c16))))))
                exact ih (a + 1) qu qw mn (-2) ((-1) - (V1 ((fL_slot E1 i nx).toNatClampNeg))) 1 (upd (upd N1 17 ((N1 17) + 1)) 16 1) E1 V1 L1 X1 H1 U En (by omega) (by show _ = nI (a + 1); simp only [z_ftN (show (17 : Nat) ≠ 11 by decide) (show (17 : Nat) ≠ 18 by decide), pk_us, pk_un (show (17 : Nat) ≠ 16 by decide), hc]; exact nI_1 a) (hV _ (z_lt0 c16)) hV (z_mK hm) hU hF
        · refine z_aload B dL_resolves_88 7 rfl ?_
          refine z_iload B dL_resolves_90 0 rfl ?_
          refine z_dup2 B dL_resolves_92 rfl rfl ?_
          refine z_ialdn B (N := 24) (f := H1) (k0 := (fL_slot E1 i nx).toNatClampNeg) (v := (H1 ((fL_slot E1 i nx).toNatClampNeg))) 6 0 rfl rfl (z_ofN (z_slO hi4) c5) rfl rfl dL_resolves_93 ?_
          refine z_iconst B (v := 1) dL_resolves_94 rfl ?_
          refine z_iadd B dL_resolves_95 ?_
          refine z_iastn B (N := 24) (f := H1) (k0 := (fL_slot E1 i nx).toNatClampNeg) 6 0 rfl rfl (z_ofN (z_slO hi4) c5) rfl (bs' := [[(pz, .inl (zI K, 32, .inl Gz))], [(pn, .inl (zI K, 20, .inl (upd N1 17 ((N1 17) + 1))))], [(pe, .inl (zI K, 24, .inl E1))], [(pv, .inl (zI K, 24, .inl V1))], [(pl, .inl (zI K, 24, .inl L1))], [(px, .inl (zI K, 24, .inl X1))], [(ph, .inl (zI K, 24, .inl (upd H1 ((fL_slot E1 i nx).toNatClampNeg) ((H1 ((fL_slot E1 i nx).toNatClampNeg)) + 1))))], [(qu, .inl (zI K, 6, .inl U))], [(qw, .inl (zI K, 6, .inl En))]]) rfl dL_resolves_96 ?_
          refine z_aload B dL_resolves_97 10 rfl ?_
          refine z_iload B dL_resolves_99 12 rfl ?_
          refine z_iload B dL_resolves_101 14 rfl ?_
          refine z_iastn B (N := 6) (f := U) (k0 := mn.toNatClampNeg) 7 0 rfl rfl (z_m6 hm (by omega) (by decide)) rfl (bs' := [[(pz, .inl (zI K, 32, .inl Gz))], [(pn, .inl (zI K, 20, .inl (upd N1 17 ((N1 17) + 1))))], [(pe, .inl (zI K, 24, .inl E1))], [(pv, .inl (zI K, 24, .inl V1))], [(pl, .inl (zI K, 24, .inl L1))], [(px, .inl (zI K, 24, .inl X1))], [(ph, .inl (zI K, 24, .inl (upd H1 ((fL_slot E1 i nx).toNatClampNeg) ((H1 ((fL_slot E1 i nx).toNatClampNeg)) + 1))))], [(qu, .inl (zI K, 6, .inl (upd U mn.toNatClampNeg nx)))], [(qw, .inl (zI K, 6, .inl En))]]) rfl dL_resolves_103 ?_
          refine z_aload B dL_resolves_104 11 rfl ?_
          refine z_iload B dL_resolves_106 12 rfl ?_
          refine z_aload B dL_resolves_108 6 rfl ?_
          refine z_iload B dL_resolves_110 0 rfl ?_
          refine z_ialdn B (N := 24) (f := X1) (k0 := (fL_slot E1 i nx).toNatClampNeg) (v := (X1 ((fL_slot E1 i nx).toNatClampNeg))) 5 0 rfl rfl (z_ofN (z_slO hi4) c5) rfl rfl dL_resolves_112 ?_
          refine z_iastn B (N := 6) (f := En) (k0 := mn.toNatClampNeg) 8 0 rfl rfl (z_m6 hm (by omega) (by decide)) rfl (bs' := [[(pz, .inl (zI K, 32, .inl Gz))], [(pn, .inl (zI K, 20, .inl (upd N1 17 ((N1 17) + 1))))], [(pe, .inl (zI K, 24, .inl E1))], [(pv, .inl (zI K, 24, .inl V1))], [(pl, .inl (zI K, 24, .inl L1))], [(px, .inl (zI K, 24, .inl X1))], [(ph, .inl (zI K, 24, .inl (upd H1 ((fL_slot E1 i nx).toNatClampNeg) ((H1 ((fL_slot E1 i nx).toNatClampNeg)) + 1))))], [(qu, .inl (zI K, 6, .inl (upd U mn.toNatClampNeg nx)))], [(qw, .inl (zI K, 6, .inl (upd En mn.toNatClampNeg (X1 ((fL_slot E1 i nx).toNatClampNeg)))))]]) rfl dL_resolves_113 ?_
          refine z_iinc B (v := (mn + 1)) (lv' := [(11, .int (mn + 1)), (15, .int (fL_slot E1 i nx)), (0, .ref pz), (1, .ref pn), (2, .ref pe), (3, .ref pv), (4, .ref pl), (5, .ref px), (6, .ref ph), (7, .int (nI i)), (8, .int x2), (9, .ref qu), (10, .ref qw), (12, .int an), (13, .int nx), (14, .int go)]) dL_resolves_114 12 rfl rfl (by decide) rfl ?_
          refine z_goto B (tgt := 187) dL_resolves_117 (by decide) ?_
          refine z_iload B dL_resolves_187 1 rfl ?_
          refine z_iflt B 203 dL_resolves_189 (by decide) (fun h => absurd h c5) (fun _ => ?_)
          refine z_aload_n B dL_resolves_192 5 rfl ?_
          refine z_iload B dL_resolves_193 1 rfl ?_
          refine z_ialdn B (N := 24) (f := V1) (k0 := (fL_slot E1 i nx).toNatClampNeg) (v := (V1 ((fL_slot E1 i nx).toNatClampNeg))) 3 0 rfl rfl (z_ofN (z_slO hi4) c5) rfl rfl dL_resolves_195 ?_
          refine z_ifge B 203 dL_resolves_196 (by decide) (fun c18 => ?_) (fun c18 => ?_)
          · refine z_iconst B (v := 0) dL_resolves_203 rfl ?_
            refine z_istore B (lv' := [(14, .int 0), (11, .int (mn + 1)), (15, .int (fL_slot E1 i nx)), (0, .ref pz), (1, .ref pn), (2, .ref pe), (3, .ref pv), (4, .ref pl), (5, .ref px), (6, .ref ph), (7, .int (nI i)), (8, .int x2), (9, .ref qu), (10, .ref qw), (12, .int an), (13, .int nx)]) dL_resolves_204 (by decide) rfl ?_
            refine z_iload B dL_resolves_206 2 rfl ?_
            refine z_ifge B 216 dL_resolves_208 (by decide) (fun _ => ?_) (fun h => absurd (z_s3 c5) h)
            refine z_aload_n B dL_resolves_216 6 rfl ?_
            refine z_iload B dL_resolves_217 2 rfl ?_
            refine z_ialdn B (N := 24) (f := V1) (k0 := (fL_slot E1 i nx).toNatClampNeg) (v := (V1 ((fL_slot E1 i nx).toNatClampNeg))) 3 0 rfl rfl (z_ofN (z_slO hi4) c5) rfl rfl dL_resolves_219 ?_
            refine z_ifle B 230 dL_resolves_220 (by decide) (fun c19 => ?_) (fun c19 => ?_)
            · refine z_aload_n B dL_resolves_230 6 rfl ?_
              refine z_iload B dL_resolves_231 2 rfl ?_
              refine z_ialdn B (N := 24) (f := V1) (k0 := (fL_slot E1 i nx).toNatClampNeg) (v := (V1 ((fL_slot E1 i nx).toNatClampNeg))) 3 0 rfl rfl (z_ofN (z_slO hi4) c5) rfl rfl dL_resolves_233 ?_
              refine z_ifne B 241 dL_resolves_234 (by decide) (fun _ => ?_) (fun h => absurd (z_s0 c18 c19) h)
              refine z_iconst B (v := (-1)) dL_resolves_237 rfl ?_
              refine z_goto B (tgt := 243) dL_resolves_238 (by decide) ?_
              refine z_istore B (lv' := [(12, .int (-1)), (14, .int 0), (11, .int (mn + 1)), (15, .int (fL_slot E1 i nx)), (0, .ref pz), (1, .ref pn), (2, .ref pe), (3, .ref pv), (4, .ref pl), (5, .ref px), (6, .ref ph), (7, .int (nI i)), (8, .int x2), (9, .ref qu), (10, .ref qw), (13, .int nx)]) dL_resolves_243 (by decide) rfl ?_
              refine z_iload B dL_resolves_245 1 rfl ?_
              refine z_ifeq B 259 dL_resolves_247 (by decide) (fun _ => ?_) (fun h => absurd (by decide) h)
              refine z_iload B dL_resolves_259 15 rfl ?_
              refine z_istore B (lv' := [(13, .int nx), (12, .int (-1)), (14, .int 0), (11, .int (mn + 1)), (15, .int (fL_slot E1 i nx)), (0, .ref pz), (1, .ref pn), (2, .ref pe), (3, .ref pv), (4, .ref pl), (5, .ref px), (6, .ref ph), (7, .int (nI i)), (8, .int x2), (9, .ref qu), (10, .ref qw)]) dL_resolves_261 (by decide) rfl ?_
              refine z_goto B (tgt := 41) dL_resolves_263 (by decide) ?_
              refine z_lsub [5, 6, 7, 8, 9, 10, 11, 12, 13, 14, 15, 3, 1, 0, 2] rfl ?_
              have hF : fL_resolves Gz Gn Ge Gv Gl Gx Gh i x2 = fL_resolves_L41 Gz Gn Ge Gv Gl Gx Gh i x2 n (a + 1) (mn + 1) (-1) nx 0 (upd N1 17 ((N1 17) + 1)) E1 V1 L1 X1 (upd H1 ((fL_slot E1 i nx).toNatClampNeg) ((H1 ((fL_slot E1 i nx).toNatClampNeg)) + 1)) (upd U mn.toNatClampNeg nx) (upd En mn.toNatClampNeg (X1 ((fL_slot E1 i nx).toNatClampNeg))) := (hF0).trans ((if_neg c4).trans ((if_neg c5).trans ((if_neg c10).trans ((if_pos c18).trans (if_pos c19)))))
              exact ih (a + 1) qu qw (mn + 1) (-1) nx 0 (upd N1 17 ((N1 17) + 1)) E1 V1 L1 X1 (upd H1 ((fL_slot E1 i nx).toNatClampNeg) ((H1 ((fL_slot E1 i nx).toNatClampNeg)) + 1)) (upd U mn.toNatClampNeg nx) (upd En mn.toNatClampNeg (X1 ((fL_slot E1 i nx).toNatClampNeg))) (by omega) (by show _ = nI (a + 1); simp only [z_ftN (show (17 : Nat) ≠ 11 by decide) (show (17 : Nat) ≠ 18 by decide), pk_us, pk_un (show (17 : Nat) ≠ 16 by decide), hc]; exact nI_1 a) hnx hV (z_mS hm) (z_uU hU hnx) hF
            · refine z_aload_n B dL_resolves_223 6 rfl ?_
              refine z_iload B dL_resolves_224 2 rfl ?_
              refine z_ialdn B (N := 24) (f := V1) (k0 := (fL_slot E1 i nx).toNatClampNeg) (v := (V1 ((fL_slot E1 i nx).toNatClampNeg))) 3 0 rfl rfl (z_ofN (z_slO hi4) c5) rfl rfl dL_resolves_226 ?_
              refine z_goto B (tgt := 243) dL_resolves_227 (by decide) ?_
              refine z_istore B (lv' := [(12, .int (V1 ((fL_slot E1 i nx).toNatClampNeg))), (14, .int 0), (11, .int (mn + 1)), (15, .int (fL_slot E1 i nx)), (0, .ref pz), (1, .ref pn), (2, .ref pe), (3, .ref pv), (4, .ref pl), (5, .ref px), (6, .ref ph), (7, .int (nI i)), (8, .int x2), (9, .ref qu), (10, .ref qw), (13, .int nx)]) dL_resolves_243 (by decide) rfl ?_
              refine z_iload B dL_resolves_245 1 rfl ?_
              refine z_ifeq B 259 dL_resolves_247 (by decide) (fun _ => ?_) (fun h => absurd (by decide) h)
              refine z_iload B dL_resolves_259 15 rfl ?_
              refine z_istore B (lv' := [(13, .int nx), (12, .int (V1 ((fL_slot E1 i nx).toNatClampNeg))), (14, .int 0), (11, .int (mn + 1)), (15, .int (fL_slot E1 i nx)), (0, .ref pz), (1, .ref pn), (2, .ref pe), (3, .ref pv), (4, .ref pl), (5, .ref px), (6, .ref ph), (7, .int (nI i)), (8, .int x2), (9, .ref qu), (10, .ref qw)]) dL_resolves_261 (by decide) rfl ?_
              refine z_goto B (tgt := 41) dL_resolves_263 (by decide) ?_
              refine z_lsub [5, 6, 7, 8, 9, 10, 11, 12, 13, 14, 15, 3, 1, 0, 2] rfl ?_
              have hF : fL_resolves Gz Gn Ge Gv Gl Gx Gh i x2 = fL_resolves_L41 Gz Gn Ge Gv Gl Gx Gh i x2 n (a + 1) (mn + 1) (V1 ((fL_slot E1 i nx).toNatClampNeg)) nx 0 (upd N1 17 ((N1 17) + 1)) E1 V1 L1 X1 (upd H1 ((fL_slot E1 i nx).toNatClampNeg) ((H1 ((fL_slot E1 i nx).toNatClampNeg)) + 1)) (upd U mn.toNatClampNeg nx) (upd En mn.toNatClampNeg (X1 ((fL_slot E1 i nx).toNatClampNeg))) := (hF0).trans ((if_neg c4).trans ((if_neg c5).trans ((if_neg c10).trans ((if_pos c18).trans (if_neg c19)))))
              exact ih (a + 1) qu qw (mn + 1) (V1 ((fL_slot E1 i nx).toNatClampNeg)) nx 0 (upd N1 17 ((N1 17) + 1)) E1 V1 L1 X1 (upd H1 ((fL_slot E1 i nx).toNatClampNeg) ((H1 ((fL_slot E1 i nx).toNatClampNeg)) + 1)) (upd U mn.toNatClampNeg nx) (upd En mn.toNatClampNeg (X1 ((fL_slot E1 i nx).toNatClampNeg))) (by omega) (by show _ = nI (a + 1); simp only [z_ftN (show (17 : Nat) ≠ 11 by decide) (show (17 : Nat) ≠ 18 by decide), pk_us, pk_un (show (17 : Nat) ≠ 16 by decide), hc]; exact nI_1 a) hnx hV (z_mS hm) (z_uU hU hnx) hF
          · refine z_iconst B (v := 1) dL_resolves_199 rfl ?_
            refine z_goto B (tgt := 204) dL_resolves_200 (by decide) ?_
            refine z_istore B (lv' := [(14, .int 1), (11, .int (mn + 1)), (15, .int (fL_slot E1 i nx)), (0, .ref pz), (1, .ref pn), (2, .ref pe), (3, .ref pv), (4, .ref pl), (5, .ref px), (6, .ref ph), (7, .int (nI i)), (8, .int x2), (9, .ref qu), (10, .ref qw), (12, .int an), (13, .int nx)]) dL_resolves_204 (by decide) rfl ?_
            refine z_iload B dL_resolves_206 2 rfl ?_
            refine z_ifge B 216 dL_resolves_208 (by decide) (fun _ => ?_) (fun h => absurd (z_s3 c5) h)
            refine z_aload_n B dL_resolves_216 6 rfl ?_
            refine z_iload B dL_resolves_217 2 rfl ?_
            refine z_ialdn B (N := 24) (f := V1) (k0 := (fL_slot E1 i nx).toNatClampNeg) (v := (V1 ((fL_slot E1 i nx).toNatClampNeg))) 3 0 rfl rfl (z_ofN (z_slO hi4) c5) rfl rfl dL_resolves_219 ?_
            refine z_ifle B 230 dL_resolves_220 (by decide) (fun _ => ?_) (fun h => absurd (z_s1 c18) h)
            refine z_aload_n B dL_resolves_230 6 rfl ?_
            refine z_iload B dL_resolves_231 2 rfl ?_
            refine z_ialdn B (N := 24) (f := V1) (k0 := (fL_slot E1 i nx).toNatClampNeg) (v := (V1 ((fL_slot E1 i nx).toNatClampNeg))) 3 0 rfl rfl (z_ofN (z_slO hi4) c5) rfl rfl dL_resolves_233 ?_
            refine z_ifne B 241 dL_resolves_234 (by decide) (fun h => absurd h (z_s2 c18)) (fun _ => ?_)
            refine z_bipush B (v := (-2)) dL_resolves_241 rfl ?_
            refine z_istore B (lv' := [(12, .int (-2)), (14, .int 1), (11, .int (mn + 1)), (15, .int (fL_slot E1 i nx)), (0, .ref pz), (1, .ref pn), (2, .ref pe), (3, .ref pv), (4, .ref pl), (5, .ref px), (6, .ref ph), (7, .int (nI i)), (8, .int x2), (9, .ref qu), (10, .ref qw), (13, .int nx)]) dL_resolves_243 (by decide) rfl ?_
            refine z_iload B dL_resolves_245 1 rfl ?_
            refine z_ifeq B 259 dL_resolves_247 (by decide) (fun h => absurd h (by decide)) (fun _ => ?_)
            refine z_iconst B (v := (-1)) dL_resolves_250 rfl ?_
            refine z_aload_n B dL_resolves_251 7 rfl ?_
            refine z_iload B dL_resolves_252 3 rfl ?_
            refine z_ialdn B (N := 24) (f := V1) (k0 := (fL_slot E1 i nx).toNatClampNeg) (v := (V1 ((fL_slot E1 i nx).toNatClampNeg))) 3 0 rfl rfl (z_ofN (z_slO hi4) c5) rfl rfl dL_resolves_254 ?_
            refine z_isub B dL_resolves_255 ?_
            refine z_goto B (tgt := 261) dL_resolves_256 (by decide) ?_
            refine z_istore B (lv' := [(13, .int ((-1) - (V1 ((fL_slot E1 i nx).toNatClampNeg)))), (12, .int (-2)), (14, .int 1), (11, .int (mn + 1)), (15, .int (fL_slot E1 i nx)), (0, .ref pz), (1, .ref pn), (2, .ref pe), (3, .ref pv), (4, .ref pl), (5, .ref px), (6, .ref ph), (7, .int (nI i)), (8, .int x2), (9, .ref qu), (10, .ref qw)]) dL_resolves_261 (by decide) rfl ?_
            refine z_goto B (tgt := 41) dL_resolves_263 (by decide) ?_
            refine z_lsub [5, 6, 7, 8, 9, 10, 11, 12, 13, 14, 15, 3, 1, 0, 2] rfl ?_
            have hF : fL_resolves Gz Gn Ge Gv Gl Gx Gh i x2 = fL_resolves_L41 Gz Gn Ge Gv Gl Gx Gh i x2 n (a + 1) (mn + 1) (-2) ((-1) - (V1 ((fL_slot E1 i nx).toNatClampNeg))) 1 (upd N1 17 ((N1 17) + 1)) E1 V1 L1 X1 (upd H1 ((fL_slot E1 i nx).toNatClampNeg) ((H1 ((fL_slot E1 i nx).toNatClampNeg)) + 1)) (upd U mn.toNatClampNeg nx) (upd En mn.toNatClampNeg (X1 ((fL_slot E1 i nx).toNatClampNeg))) := (hF0).trans ((if_neg c4).trans ((if_neg c5).trans ((if_neg c10).trans (if_neg c18))))
            exact ih (a + 1) qu qw (mn + 1) (-2) ((-1) - (V1 ((fL_slot E1 i nx).toNatClampNeg))) 1 (upd N1 17 ((N1 17) + 1)) E1 V1 L1 X1 (upd H1 ((fL_slot E1 i nx).toNatClampNeg) ((H1 ((fL_slot E1 i nx).toNatClampNeg)) + 1)) (upd U mn.toNatClampNeg nx) (upd En mn.toNatClampNeg (X1 ((fL_slot E1 i nx).toNatClampNeg))) (by omega) (by show _ = nI (a + 1); simp only [z_ftN (show (17 : Nat) ≠ 11 by decide) (show (17 : Nat) ≠ 18 by decide), pk_us, pk_un (show (17 : Nat) ≠ 16 by decide), hc]; exact nI_1 a) (hV _ (z_lt0 c18)) hV (z_mS hm) (z_uU hU hnx) hF
set_option maxHeartbeats 4000000 in
set_option maxRecDepth 100000 in
theorem kL_resolves (l : Launch) (hl : l.stackTraces = false) (K : zK) (pz : Nat) (pn : Nat) (pe : Nat) (pv : Nat) (pl : Nat) (px : Nat) (ph : Nat) (Gz : Nat → Int32) (Gn : Nat → Int32) (Ge : Nat → Int32) (Gv : Nat → Int32) (Gl : Nat → Int32) (Gx : Nat → Int32) (Gh : Nat → Int32) (i : Nat) (x2 : Int32) (hi4 : i < 4) (hn : vp_in x2 16) (hz : zwz Gz) (hv : zwV Gv) : zMet l K yL_resolves wsL_resolves { frames := 2, cells := 2, slots := 12, locals := 53 } [.ref pz, .ref pn, .ref pe, .ref pv, .ref pl, .ref px, .ref ph, .int (nI i), .int x2] [[(pz, .inl (zI K, 32, .inl Gz))], [(pn, .inl (zI K, 20, .inl Gn))], [(pe, .inl (zI K, 24, .inl Ge))], [(pv, .inl (zI K, 24, .inl Gv))], [(pl, .inl (zI K, 24, .inl Gl))], [(px, .inl (zI K, 24, .inl Gx))], [(ph, .inl (zI K, 24, .inl Gh))]] (some (.int ((fL_resolves Gz Gn Ge Gv Gl Gx Gh i x2).1))) [[(pz, .inl (zI K, 32, .inl Gz))], [(pn, .inl (zI K, 20, .inl ((fL_resolves Gz Gn Ge Gv Gl Gx Gh i x2).2.1)))], [(pe, .inl (zI K, 24, .inl ((fL_resolves Gz Gn Ge Gv Gl Gx Gh i x2).2.2.1)))], [(pv, .inl (zI K, 24, .inl ((fL_resolves Gz Gn Ge Gv Gl Gx Gh i x2).2.2.2.1)))], [(pl, .inl (zI K, 24, .inl ((fL_resolves Gz Gn Ge Gv Gl Gx Gh i x2).2.2.2.2.1)))], [(px, .inl (zI K, 24, .inl ((fL_resolves Gz Gn Ge Gv Gl Gx Gh i x2).2.2.2.2.2.1)))], [(ph, .inl (zI K, 24, .inl ((fL_resolves Gz Gn Ge Gv Gl Gx Gh i x2).2.2.2.2.2.2)))]] True zNo := by
  refine zMeN.of (cc := cL_resolves) (maxL := 17) (ret := (some .int)) (own := RL) (nm := "resolves") hl (by decide +kernel) rfl rfl rfl (Nat.le_of_ble_eq_true rfl) (lv := [(0, .ref pz), (1, .ref pn), (2, .ref pe), (3, .ref pv), (4, .ref pl), (5, .ref px), (6, .ref ph), (7, .int (nI i)), (8, .int x2)]) rfl ?_
  intro p e s m args below meth c A B
  refine z_bipush B (v := 6) dL_resolves_0 rfl ?_
  refine z_newI B hwL_resolves_arrint (N := 6) (by decide) rfl (by decide) (Nat.le_of_ble_eq_true rfl) (Nat.le_of_ble_eq_true rfl) dL_resolves_2 (fun q1 => ?_)
  refine z_astore B (lv' := [(9, .ref q1), (0, .ref pz), (1, .ref pn), (2, .ref pe), (3, .ref pv), (4, .ref pl), (5, .ref px), (6, .ref ph), (7, .int (nI i)), (8, .int x2)]) dL_resolves_4 (by decide) rfl ?_
  refine z_bipush B (v := 6) dL_resolves_6 rfl ?_
  refine z_newI B hwL_resolves_arrint (N := 6) (by decide) rfl (by decide) (Nat.le_of_ble_eq_true rfl) (Nat.le_of_ble_eq_true rfl) dL_resolves_8 (fun q2 => ?_)
  refine z_astore B (lv' := [(10, .ref q2), (9, .ref q1), (0, .ref pz), (1, .ref pn), (2, .ref pe), (3, .ref pv), (4, .ref pl), (5, .ref px), (6, .ref ph), (7, .int (nI i)), (8, .int x2)]) dL_resolves_10 (by decide) rfl ?_
  refine z_iconst B (v := 0) dL_resolves_12 rfl ?_
  refine z_istore B (lv' := [(11, .int 0), (10, .ref q2), (9, .ref q1), (0, .ref pz), (1, .ref pn), (2, .ref pe), (3, .ref pv), (4, .ref pl), (5, .ref px), (6, .ref ph), (7, .int (nI i)), (8, .int x2)]) dL_resolves_13 (by decide) rfl ?_
  refine z_bipush B (v := (-2)) dL_resolves_15 rfl ?_
  refine z_istore B (lv' := [(12, .int (-2)), (11, .int 0), (10, .ref q2), (9, .ref q1), (0, .ref pz), (1, .ref pn), (2, .ref pe), (3, .ref pv), (4, .ref pl), (5, .ref px), (6, .ref ph), (7, .int (nI i)), (8, .int x2)]) dL_resolves_17 (by decide) rfl ?_
  refine z_iload B dL_resolves_19 12 rfl ?_
  refine z_istore B (lv' := [(13, .int x2), (12, .int (-2)), (11, .int 0), (10, .ref q2), (9, .ref q1), (0, .ref pz), (1, .ref pn), (2, .ref pe), (3, .ref pv), (4, .ref pl), (5, .ref px), (6, .ref ph), (7, .int (nI i)), (8, .int x2)]) dL_resolves_21 (by decide) rfl ?_
  refine z_iconst B (v := 1) dL_resolves_23 rfl ?_
  refine z_istore B (lv' := [(14, .int 1), (13, .int x2), (12, .int (-2)), (11, .int 0), (10, .ref q2), (9, .ref q1), (0, .ref pz), (1, .ref pn), (2, .ref pe), (3, .ref pv), (4, .ref pl), (5, .ref px), (6, .ref ph), (7, .int (nI i)), (8, .int x2)]) dL_resolves_24 (by decide) rfl ?_
  refine z_aload_n B dL_resolves_26 7 rfl ?_
  refine z_bipush B (v := 16) dL_resolves_27 rfl ?_
  refine z_iconst B (v := 0) dL_resolves_29 rfl ?_
  refine z_iastn B (N := 20) (f := Gn) (k0 := 16) 1 0 rfl rfl (z_vpc (k := 16) rfl (by decide)) rfl (bs' := [[(pz, .inl (zI K, 32, .inl Gz))], [(pn, .inl (zI K, 20, .inl (upd Gn 16 0)))], [(pe, .inl (zI K, 24, .inl Ge))], [(pv, .inl (zI K, 24, .inl Gv))], [(pl, .inl (zI K, 24, .inl Gl))], [(px, .inl (zI K, 24, .inl Gx))], [(ph, .inl (zI K, 24, .inl Gh))], [(q1, .inl (zI K, 6, .inl (fun _ => 0)))], [(q2, .inl (zI K, 6, .inl (fun _ => 0)))]]) rfl dL_resolves_30 ?_
  refine z_aload_n B dL_resolves_31 7 rfl ?_
  refine z_bipush B (v := 17) dL_resolves_32 rfl ?_
  refine z_iconst B (v := 0) dL_resolves_34 rfl ?_
  refine z_iastn B (N := 20) (f := (upd Gn 16 0)) (k0 := 17) 1 0 rfl rfl (z_vpc (k := 17) rfl (by decide)) rfl (bs' := [[(pz, .inl (zI K, 32, .inl Gz))], [(pn, .inl (zI K, 20, .inl (upd (upd Gn 16 0) 17 0)))], [(pe, .inl (zI K, 24, .inl Ge))], [(pv, .inl (zI K, 24, .inl Gv))], [(pl, .inl (zI K, 24, .inl Gl))], [(px, .inl (zI K, 24, .inl Gx))], [(ph, .inl (zI K, 24, .inl Gh))], [(q1, .inl (zI K, 6, .inl (fun _ => 0)))], [(q2, .inl (zI K, 6, .inl (fun _ => 0)))]]) rfl dL_resolves_35 ?_
  refine z_aload_n B dL_resolves_36 7 rfl ?_
  refine z_bipush B (v := 18) dL_resolves_37 rfl ?_
  refine z_iconst B (v := 0) dL_resolves_39 rfl ?_
  refine z_iastn B (N := 20) (f := (upd (upd Gn 16 0) 17 0)) (k0 := 18) 1 0 rfl rfl (z_vpc (k := 18) rfl (by decide)) rfl (bs' := [[(pz, .inl (zI K, 32, .inl Gz))], [(pn, .inl (zI K, 20, .inl (upd (upd (upd Gn 16 0) 17 0) 18 0)))], [(pe, .inl (zI K, 24, .inl Ge))], [(pv, .inl (zI K, 24, .inl Gv))], [(pl, .inl (zI K, 24, .inl Gl))], [(px, .inl (zI K, 24, .inl Gx))], [(ph, .inl (zI K, 24, .inl Gh))], [(q1, .inl (zI K, 6, .inl (fun _ => 0)))], [(q2, .inl (zI K, 6, .inl (fun _ => 0)))]]) rfl dL_resolves_40 ?_
  refine z_lsub [6, 7, 8, 9, 10, 11, 12, 13, 14, 5, 4, 3, 2, 1, 0] rfl ?_
  have hF : fL_resolves Gz Gn Ge Gv Gl Gx Gh i x2 = fL_resolves_L41 Gz Gn Ge Gv Gl Gx Gh i x2 5 0 0 (-2) x2 1 (upd (upd (upd Gn 16 0) 17 0) 18 0) Ge Gv Gl Gx Gh (fun _ => 0) (fun _ => 0) := rfl
  exact kL_resolves_L41 l hl K pz pn pe pv pl px ph Gz Gn Ge Gv Gl Gx Gh i x2 hi4 hn hz hv B 5 0 q1 q2 0 (-2) x2 1 (upd (upd (upd Gn 16 0) 17 0) 18 0) Ge Gv Gl Gx Gh (fun _ => 0) (fun _ => 0) (by omega) rfl hn hv z_m0 z_u0 hF
