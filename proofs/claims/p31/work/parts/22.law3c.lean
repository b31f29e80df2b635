def fL_told_qoh (X : Nat → Int32) (D : Nat → Nat → Int32) (i : Nat) (C : Nat → Nat → Int32) (Z : Nat → Nat → Int32) (W : Nat → Int32) (F : Nat → Int32) (O : Nat → Int32) (x1 : Int32) (x2 : Int32) : Int32 × (Nat → Int32) × (Nat → Nat → Int32) × (Nat → Int32) × (Nat → Int32) :=
  (((fX4_query_oh X D i C Z W F O x1 x2).1), ((fX4_query_oh X D i C Z W F O x1 x2).2.1), ((fX4_query_oh X D i C Z W F O x1 x2).2.2.1), ((fX4_query_oh X D i C Z W F O x1 x2).2.2.2.1), ((fX4_query_oh X D i C Z W F O x1 x2).2.2.2.2))
set_option maxHeartbeats 4000000 in
set_option maxRecDepth 100000 in
theorem kL_told_qoh (l : Launch) (hl : l.stackTraces = false) (K : zK) (ax : Nat) (az : Nat → Nat) (sa : Nat) (ak : Nat → Nat) (tr : Nat) (tc : Nat) (X : Nat → Int32) (f : Nat → Option Nat) (n : Nat) (so : Nat → Nat) (sc : Nat → Nat → Nat) (D : Nat → Nat → Int32) (i : Nat) (C : Nat → Nat → Int32) (Z : Nat → Nat → Int32) (W : Nat → Int32) (F : Nat → Int32) (O : Nat → Int32) (x1 : Int32) (x2 : Int32) (hf1 : ∀ a, a < n → f a = some (so a)) (hf2 : ∀ a, n ≤ a → a < 4 → f a = none) (hi : i < n) (hN : fX4_near n D x1 = some i) (q0 : ¬ x2 < 0) (q1 : x2 < 16) (r0 : ¬ x1 < 0) (r1 : x1 ≤ 99) : zMet l K yL_told wsL_told { frames := 7, cells := 0, slots := 0, locals := 164 } [.ref ax, .int 0, .int x1, .int x2] [zXo ax (az 0) sa (ak 0) tr tc X, zSa K sa f, zSO n so sc D, zCa K (sc i) C, zZo K az Z W, zCo K ak F O] (some (.int ((fL_told_qoh X D i C Z W F O x1 x2).1))) [zXo ax (az 0) sa (ak 0) tr tc ((fL_told_qoh X D i C Z W F O x1 x2).2.1), zSa K sa f, zSO n so sc D, zCa K (sc i) ((fL_told_qoh X D i C Z W F O x1 x2).2.2.1), zZo K az Z W, zCo K ak ((fL_told_qoh X D i C Z W F O x1 x2).2.2.2.1) ((fL_told_qoh X D i C Z W F O x1 x2).2.2.2.2)] True zNo := by
  refine zMeN.ofH (hh := [(0, 46, 47, 44)]) (cc := cL_told) (maxL := 5) (ret := (some .int)) (own := RL) (nm := "told") hl (by decide +kernel) rfl rfl rfl (Nat.le_of_ble_eq_true rfl) (lv := [(0, .ref ax), (1, .int 0), (2, .int x1), (3, .int x2)]) rfl ?_
  intro p e s m args below meth c A B
  refine z_iload_n B dL_told_0 1 rfl ?_
  refine z_ifne B 13 dL_told_1 (by decide) (fun _ => ?_) (fun h => absurd (by decide) h)
  refine z_aload_n B dL_told_4 0 rfl ?_
  refine z_iload_n B dL_told_5 2 rfl ?_
  refine z_iload_n B dL_told_6 3 rfl ?_
  refine z_V1 B (kX4_query_oh l hl K ax az sa ak tr tc X f n so sc D i C Z W F O x1 x2 hf1 hf2 hi hN q0 q1 r0 r1) [0, 1, 2, 3, 4, 5] [] (br := []) (bs' := [zXo ax (az 0) sa (ak 0) tr tc ((fX4_query_oh X D i C Z W F O x1 x2).2.1), zSa K sa f, zSO n so sc D, zCa K (sc i) ((fX4_query_oh X D i C Z W F O x1 x2).2.2.1), zZo K az Z W, zCo K ak ((fX4_query_oh X D i C Z W F O x1 x2).2.2.2.1) ((fX4_query_oh X D i C Z W F O x1 x2).2.2.2.2)]) (st := []) (nA := 2) (zsp rfl rfl rfl) (zsp rfl rfl rfl) 0 0 rfl rfl rfl rfl gL_told_X4_query rfl (by decide +kernel) ⟨Nat.le_of_ble_eq_true rfl, Nat.le_of_ble_eq_true rfl⟩ rfl rfl (Nat.le_of_ble_eq_true rfl) ⟨Nat.le_of_ble_eq_true rfl, Nat.le_of_ble_eq_true rfl⟩ dL_told_7 z_noX (fun _ => ?_)
  refine z_goto B (tgt := 46) dL_told_10 (by decide) ?_
  have hF : fL_told_qoh X D i C Z W F O x1 x2 = (((fX4_query_oh X D i C Z W F O x1 x2).1), ((fX4_query_oh X D i C Z W F O x1 x2).2.1), ((fX4_query_oh X D i C Z W F O x1 x2).2.2.1), ((fX4_query_oh X D i C Z W F O x1 x2).2.2.2.1), ((fX4_query_oh X D i C Z W F O x1 x2).2.2.2.2)) := rfl
  exact z_ret1 B rfl dL_told_46 () (trivial) (Nat.le_of_ble_eq_true rfl) (Nat.le_of_ble_eq_true rfl) (by rw [hF]) (by rw [hF])
def fL_told_qom (D : Nat → Nat → Int32) (x1 : Int32) (x2 : Int32) : Int32 :=
  (-13)
theorem hwL_told_cl44 : Cond.classLink RL 44 "java/lang/IllegalStateException" ∈ wsL_told := by decide +kernel
set_option maxHeartbeats 4000000 in
set_option maxRecDepth 100000 in
theorem kL_told_qom (l : Launch) (hl : l.stackTraces = false) (K : zK) (ax : Nat) (zn : Nat) (sa : Nat) (la : Nat) (tr : Nat) (tc : Nat) (X : Nat → Int32) (f : Nat → Option Nat) (n : Nat) (so : Nat → Nat) (sc : Nat → Nat → Nat) (D : Nat → Nat → Int32) (x1 : Int32) (x2 : Int32) (hf1 : ∀ a, a < n → f a = some (so a)) (hf2 : ∀ a, n ≤ a → a < 4 → f a = none) (hN : fX4_near n D x1 = none) (q0 : ¬ x2 < 0) (q1 : x2 < 16) (r0 : ¬ x1 < 0) (r1 : x1 ≤ 99) : zMet l K yL_told wsL_told { frames := 8, cells := 1, slots := 6, locals := 129 } [.ref ax, .int 0, .int x1, .int x2] [zXo ax zn sa la tr tc X, zSa K sa f, zSO n so sc D] (some (.int (fL_told_qom D x1 x2))) [zXo ax zn sa la tr tc X, zSa K sa f, zSO n so sc D] True zNo := by
  refine zMeN.ofH (hh := [(0, 46, 47, 44)]) (cc := cL_told) (maxL := 5) (ret := (some .int)) (own := RL) (nm := "told") hl (by decide +kernel) rfl rfl rfl (Nat.le_of_ble_eq_true rfl) (lv := [(0, .ref ax), (1, .int 0), (2, .int x1), (3, .int x2)]) rfl ?_
  intro p e s m args below meth c A B
  refine z_iload_n B dL_told_0 1 rfl ?_
  refine z_ifne B 13 dL_told_1 (by decide) (fun _ => ?_) (fun h => absurd (by decide) h)
  refine z_aload_n B dL_told_4 0 rfl ?_
  refine z_iload_n B dL_told_5 2 rfl ?_
  refine z_iload_n B dL_told_6 3 rfl ?_
  refine z_V1 B (kX4_query_om l hl K ax zn sa la tr tc X f n so sc D x1 x2 hf1 hf2 hN q0 q1 r0 r1) [0, 1, 2] [] (br := []) (bs' := [zXo ax zn sa la tr tc X, zSa K sa f, zSO n so sc D]) (st := []) (nA := 2) (zsp rfl rfl rfl) (zsp rfl rfl rfl) 0 0 rfl rfl rfl rfl gL_told_X4_query rfl (by decide +kernel) ⟨Nat.le_of_ble_eq_true rfl, Nat.le_of_ble_eq_true rfl⟩ rfl rfl (Nat.le_of_ble_eq_true rfl) ⟨Nat.le_of_ble_eq_true rfl, Nat.le_of_ble_eq_true rfl⟩ dL_told_7 (fun E hE => ?_) (fun h9 => h9.elim)
  · rcases hE with ⟨rfl, hx⟩
    · refine z_catch B [] ⟨0, 46, 47, 44⟩ [] rfl (fun _ h => absurd h List.not_mem_nil) rfl (by decide) hwL_told_cl44 z_ca3 (fun q9 => ?_)
      refine z_astore B (lv' := [(4, .ref q9), (0, .ref ax), (1, .int 0), (2, .int x1), (3, .int x2)]) dL_told_47 (by decide) rfl ?_
      refine z_bipush B (v := (-13)) dL_told_49 rfl ?_
      have hF : fL_told_qom D x1 x2 = (-13) := rfl
      exact z_ret1 B rfl dL_told_51 () (trivial) (Nat.le_of_ble_eq_true rfl) (Nat.le_of_ble_eq_true rfl) (by rw [hF]) (by rw [hF])
def fL_told_woh (X : Nat → Int32) (D : Nat → Nat → Int32) (i : Nat) (C : Nat → Nat → Int32) (Z : Nat → Nat → Int32) (W : Nat → Int32) (F : Nat → Int32) (O : Nat → Int32) (Tc : Nat → Nat → Int32) (x1 : Int32) (x2 : Int32) : Int32 × (Nat → Int32) × (Nat → Int32) × (Nat → Nat → Int32) :=
  (((fX4_wouldAnswer_oh X D i C Z W F O Tc x1 x2).1), ((fX4_wouldAnswer_oh X D i C Z W F O Tc x1 x2).2.1), ((fX4_wouldAnswer_oh X D i C Z W F O Tc x1 x2).2.2.1), ((fX4_wouldAnswer_oh X D i C Z W F O Tc x1 x2).2.2.2))
set_option maxHeartbeats 4000000 in
set_option maxRecDepth 100000 in
theorem kL_told_woh (l : Launch) (hl : l.stackTraces = false) (K : zK) (ax : Nat) (az : Nat → Nat) (sa : Nat) (la : Nat) (ak : Nat → Nat) (ad : Nat → Nat) (X : Nat → Int32) (f : Nat → Option Nat) (n : Nat) (so : Nat → Nat) (sc : Nat → Nat → Nat) (D : Nat → Nat → Int32) (i : Nat) (C : Nat → Nat → Int32) (Z : Nat → Nat → Int32) (W : Nat → Int32) (F : Nat → Int32) (O : Nat → Int32) (Tc : Nat → Nat → Int32) (x1 : Int32) (x2 : Int32) (hf1 : ∀ a, a < n → f a = some (so a)) (hf2 : ∀ a, n ≤ a → a < 4 → f a = none) (hi : i < n) (hN : fX4_near n D x1 = some i) (q0 : ¬ x2 < 0) (q1 : x2 < 16) (r0 : ¬ x1 < 0) (r1 : x1 ≤ 99) : zMet l K yL_told wsL_told { frames := 7, cells := 0, slots := 0, locals := 163 } [.ref ax, .int 1, .int x1, .int x2] [zXo ax (az 0) sa la (ak 0) (ad 0) X, zSa K sa f, zSO n so sc D, zCa K (sc i) C, zZo K az Z W, zCo K ak F O, zCa K ad Tc] (some (.int ((fL_told_woh X D i C Z W F O Tc x1 x2).1))) [zXo ax (az 0) sa la (ak 0) (ad 0) X, zSa K sa f, zSO n so sc D, zCa K (sc i) C, zZo K az Z W, zCo K ak ((fL_told_woh X D i C Z W F O Tc x1 x2).2.1) ((fL_told_woh X D i C Z W F O Tc x1 x2).2.2.1), zCa K ad ((fL_told_woh X D i C Z W F O Tc x1 x2).2.2.2)] True zNo := by
  refine zMeN.ofH (hh := [(0, 46, 47, 44)]) (cc := cL_told) (maxL := 5) (ret := (some .int)) (own := RL) (nm := "told") hl (by decide +kernel) rfl rfl rfl (Nat.le_of_ble_eq_true rfl) (lv := [(0, .ref ax), (1, .int 1), (2, .int x1), (3, .int x2)]) rfl ?_
  intro p e s m args below meth c A B
  refine z_iload_n B dL_told_0 1 rfl ?_
  refine z_ifne B 13 dL_told_1 (by decide) (fun h => absurd h (by decide)) (fun _ => ?_)
  refine z_iload_n B dL_told_13 1 rfl ?_
  refine z_iconst B (v := 1) dL_told_14 rfl ?_
  refine z_icne B 27 dL_told_15 (by decide) (fun _ => ?_) (fun h => absurd (by decide) h)
  refine z_aload_n B dL_told_18 0 rfl ?_
  refine z_iload_n B dL_told_19 2 rfl ?_
  refine z_iload_n B dL_told_20 3 rfl ?_
  refine z_V1 B (kX4_wouldAnswer_oh l hl K ax az sa la ak ad X f n so sc D i C Z W F O Tc x1 x2 hf1 hf2 hi hN q0 q1 r0 r1) [0, 1, 2, 3, 4, 5, 6] [] (br := []) (bs' := [zXo ax (az 0) sa la (ak 0) (ad 0) X, zSa K sa f, zSO n so sc D, zCa K (sc i) C, zZo K az Z W, zCo K ak ((fX4_wouldAnswer_oh X D i C Z W F O Tc x1 x2).2.1) ((fX4_wouldAnswer_oh X D i C Z W F O Tc x1 x2).2.2.1), zCa K ad ((fX4_wouldAnswer_oh X D i C Z W F O Tc x1 x2).2.2.2)]) (st := []) (nA := 2) (zsp rfl rfl rfl) (zsp rfl rfl rfl) 0 0 rfl rfl rfl rfl gL_told_X4_wouldAnswer rfl (by decide +kernel) ⟨Nat.le_of_ble_eq_true rfl, Nat.le_of_ble_eq_true rfl⟩ rfl rfl (Nat.le_of_ble_eq_true rfl) ⟨Nat.le_of_ble_eq_true rfl, Nat.le_of_ble_eq_true rfl⟩ dL_told_21 z_noX (fun _ => ?_)
  refine z_goto B (tgt := 46) dL_told_24 (by decide) ?_
  have hF : fL_told_woh X D i C Z W F O Tc x1 x2 = (((fX4_wouldAnswer_oh X D i C Z W F O Tc x1 x2).1), ((fX4_wouldAnswer_oh X D i C Z W F O Tc x1 x2).2.1), ((fX4_wouldAnswer_oh X D i C Z W F O Tc x1 x2).2.2.1), ((fX4_wouldAnswer_oh X D i C Z W F O Tc x1 x2).2.2.2)) := rfl
  exact z_ret1 B rfl dL_told_46 () (trivial) (Nat.le_of_ble_eq_true rfl) (Nat.le_of_ble_eq_true rfl) (by rw [hF]) (by rw [hF])
def fL_told_wom (D : Nat → Nat → Int32) (x1 : Int32) (x2 : Int32) : Int32 :=
  (-13)
set_option maxHeartbeats 4000000 in
set_option maxRecDepth 100000 in
theorem kL_told_wom (l : Launch) (hl : l.stackTraces = false) (K : zK) (ax : Nat) (zn : Nat) (sa : Nat) (la : Nat) (tr : Nat) (tc : Nat) (X : Nat → Int32) (f : Nat → Option Nat) (n : Nat) (so : Nat → Nat) (sc : Nat → Nat → Nat) (D : Nat → Nat → Int32) (x1 : Int32) (x2 : Int32) (hf1 : ∀ a, a < n → f a = some (so a)) (hf2 : ∀ a, n ≤ a → a < 4 → f a = none) (hN : fX4_near n D x1 = none) (q0 : ¬ x2 < 0) (q1 : x2 < 16) (r0 : ¬ x1 < 0) (r1 : x1 ≤ 99) : zMet l K yL_told wsL_told { frames := 8, cells := 1, slots := 6, locals := 128 } [.ref ax, .int 1, .int x1, .int x2] [zXo ax zn sa la tr tc X, zSa K sa f, zSO n so sc D] (some (.int (fL_told_wom D x1 x2))) [zXo ax zn sa la tr tc X, zSa K sa f, zSO n so sc D] True zNo := by
  refine zMeN.ofH (hh := [(0, 46, 47, 44)]) (cc := cL_told) (maxL := 5) (ret := (some .int)) (own := RL) (nm := "told") hl (by decide +kernel) rfl rfl rfl (Nat.le_of_ble_eq_true rfl) (lv := [(0, .ref ax), (1, .int 1), (2, .int x1), (3, .int x2)]) rfl ?_
  intro p e s m args below meth c A B
  refine z_iload_n B dL_told_0 1 rfl ?_
  refine z_ifne B 13 dL_told_1 (by decide) (fun h => absurd h (by decide)) (fun _ => ?_)
  refine z_iload_n B dL_told_13 1 rfl ?_
  refine z_iconst B (v := 1) dL_told_14 rfl ?_
  refine z_icne B 27 dL_told_15 (by decide) (fun _ => ?_) (fun h => absurd (by decide) h)
  refine z_aload_n B dL_told_18 0 rfl ?_
  refine z_iload_n B dL_told_19 2 rfl ?_
  refine z_iload_n B dL_told_20 3 rfl ?_
  refine z_V1 B (kX4_wouldAnswer_om l hl K ax zn sa la tr tc X f n so sc D x1 x2 hf1 hf2 hN q0 q1 r0 r1) [0, 1, 2] [] (br := []) (bs' := [zXo ax zn sa la tr tc X, zSa K sa f, zSO n so sc D]) (st := []) (nA := 2) (zsp rfl rfl rfl) (zsp rfl rfl rfl) 0 0 rfl rfl rfl rfl gL_told_X4_wouldAnswer rfl (by decide +kernel) ⟨Nat.le_of_ble_eq_true rfl, Nat.le_of_ble_eq_true rfl⟩ rfl rfl (Nat.le_of_ble_eq_true rfl) ⟨Nat.le_of_ble_eq_true rfl, Nat.le_of_ble_eq_true rfl⟩ dL_told_21 (fun E hE => ?_) (fun h9 => h9.elim)
  · rcases hE with ⟨rfl, hx⟩
    · refine z_catch B [] ⟨0, 46, 47, 44⟩ [] rfl (fun _ h => absurd h List.not_mem_nil) rfl (by decide) hwL_told_cl44 z_ca3 (fun q9 => ?_)
      refine z_astore B (lv' := [(4, .ref q9), (0, .ref ax), (1, .int 1), (2, .int x1), (3, .int x2)]) dL_told_47 (by decide) rfl ?_
      refine z_bipush B (v := (-13)) dL_told_49 rfl ?_
      have hF : fL_told_wom D x1 x2 = (-13) := rfl
      exact z_ret1 B rfl dL_told_51 () (trivial) (Nat.le_of_ble_eq_true rfl) (Nat.le_of_ble_eq_true rfl) (by rw [hF]) (by rw [hF])

