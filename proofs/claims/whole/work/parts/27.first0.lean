/-! THE FIRST STATE -/
def zI9 : Nat → Int32 := (fX5_init (fun _ => 0) (fun _ _ => 0)).1
def zR9 : Nat → Nat → Int32 := (fX5_init (fun _ => 0) (fun _ _ => 0)).2
theorem init_L153 {I : Nat → Int32} {R : Nat → Nat → Int32} {r : Nat} (hr : r ≠ 6) : ∀ n a R1, (fX5_init_L153 I R n a R1).2 r = R1 r
  | 0, a, R1 => rfl
  | n + 1, a, R1 => by rw [fX5_init_L153, init_L153 hr n, va_up_ne _ _ hr]
theorem init_L132 {I : Nat → Int32} {R : Nat → Nat → Int32} {r : Nat} (hr : r ≠ 6) (h1 : r ≠ 1) : ∀ n a R1, (fX5_init_L132 I R n a R1).2 r = R1 r
  | 0, a, R1 => by rw [fX5_init_L132, init_L153 hr]
  | n + 1, a, R1 => by rw [fX5_init_L132, init_L132 hr h1 n, va_up_ne _ _ h1]
theorem init_R {r : Nat} (hr : r ≠ 6) (h1 : r ≠ 1) : zR9 r = fun _ => 0 := init_L132 hr h1 16 0 _
theorem init_I153 {I : Nat → Int32} {R : Nat → Nat → Int32} : ∀ n a R1, (fX5_init_L153 I R n a R1).1 = va_up (va_up (va_up I 3 30) 4 1) 15 (-3)
  | 0, a, R1 => rfl
  | n + 1, a, R1 => by rw [fX5_init_L153, init_I153 n]
theorem init_I132 {I : Nat → Int32} {R : Nat → Nat → Int32} : ∀ n a R1, (fX5_init_L132 I R n a R1).1 = va_up (va_up (va_up I 3 30) 4 1) 15 (-3)
  | 0, a, R1 => by rw [fX5_init_L132, init_I153]
  | n + 1, a, R1 => by rw [fX5_init_L132, init_I132 n]
theorem init_I : zI9 = va_up (va_up (va_up (fun _ => 0) 3 30) 4 1) 15 (-3) := init_I132 16 0 _
theorem init_1 : ∀ j, j < 16 → zR9 1 j = 2 := by decide +kernel
theorem init_6 : ∀ q, q < 64 → zR9 6 q = 3 := by decide +kernel
theorem init_Z0 : ∀ j, j < 16 → zZ0 0 j = 2 := by decide +kernel
theorem init_Z1 : ∀ j, j < 16 → zZ0 1 j = (-3) := by decide +kernel
theorem rR_0 : rR 0 zX0 zZ0 zW0 (fun _ _ => 0) (fun _ _ _ => 0) (fun _ => 0) zI9 zR9 := by
  refine ⟨⟨?_, by decide, fun i hi => absurd hi (by omega), fun i => ?_⟩, ⟨fun j hj => ?_, ?_, ?_, ?_⟩, ?_, ⟨⟨fun q hq h1 => ?_, fun q hq => ?_⟩, fun i hi => absurd hi (by omega), fun q _ hq => ?_⟩⟩
  · rw [init_I]; exact nI_0.symm
  · rw [init_R (by decide) (by decide)]; exact Or.inl rfl
  · rw [init_1 j hj, init_Z0 j hj, init_Z1 j hj]
    exact ⟨Or.inr (Or.inr rfl), rfl, fun u => absurd rfl u, fun _ => rfl, fun u => absurd u (by decide)⟩
  · rw [init_I]; rfl
  · rw [init_I]; rfl
  · rw [init_I]; exact Or.inr rfl
  · rw [init_I]
    exact ⟨nI_0.symm, rfl, rfl, rfl, rfl, rfl, rfl, rfl, rfl, rfl, rfl, Or.inl rfl⟩
  · rw [init_6 q hq] at h1
    exact absurd h1 (by decide)
  · rw [init_6 q hq]
    exact ⟨Or.inr (Or.inr (Or.inr rfl)), fun u => absurd u (by decide)⟩
  · rw [init_6 q hq, init_R (r := 7) (by decide) (by decide), init_R (r := 8) (by decide) (by decide), init_R (r := 9) (by decide) (by decide), init_R (r := 10) (by decide) (by decide)]
    exact ⟨rfl, rfl, rfl, rfl, rfl⟩
