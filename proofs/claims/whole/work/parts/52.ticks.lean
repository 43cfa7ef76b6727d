/-! ticks: the traits are asked of ops that are there -/
theorem baR_1 {R : Nat → Nat} {i : Nat} (h : 115 ≤ i) : baR R i = R i := by
  have a : ∀ (S : Nat → Nat) n, ckR S 0 n i = S i := fun S n => by unfold ckR; rw [if_neg (by omega)]
  unfold baR
  split
  · rfl
  split
  · rw [a]; unfold ctR; rw [if_neg (by omega), if_neg (by omega)]
  · rw [a]; unfold doR goR mdR
    rw [if_neg (by omega), if_neg (by omega), if_neg (by omega), if_neg (by omega), if_neg (by omega)]
theorem hoP_ba {R : Nat → Nat} (h : okW R) : hoP (baR R) = hoP R := by
  have h1 := okW_g h (g := 1) (by omega)
  unfold hoP
  rw [baR_1 (i := 102 + 13 * 1 + 0) (by omega), eqG_ba R (12 + R (102 + 13 * 1 + 0)) (by omega)]
theorem hoW_1 {R : Nat → Nat} (h : hoW R ≤ 1) : ¬ R 3 ≤ R (102 + 13 * 1 + 0) := by
  intro e
  rw [show hoW R = 4294967295 from if_pos e] at h
  omega
theorem hoP_lt {R : Nat → Nat} (h : okW R) (e : ¬ R 3 ≤ R (102 + 13 * 1 + 0)) : hoP R < R 0 := okW_pl h (by omega)
theorem tkP_f {R : Nat → Nat} (h : okW R) {al : Bool} (e : tkB R al = true) : al = false ∧ ¬ R 3 ≤ R (102 + 13 * 1 + 0) ∧ tkP R al = hoP R := by
  unfold tkB at e
  rw [Bool.and_eq_true] at e
  have e2 := hoW_1 (of_decide_eq_true e.2)
  rw [baR_1 (i := 102 + 13 * 1 + 0) (by omega), eqG_ba R 3 (by omega)] at e2
  have e1 : al = false := by
    cases al
    · rfl
    · exact absurd e.1 (by decide)
  refine ⟨e1, e2, if_neg ?_⟩
  rintro (z | z)
  · exact e2 z
  · rw [e1] at z; cases z
theorem hoR_T {R T U : Nat → Nat} (h : okW R) (ht : ∀ p, p < R 0 → T p = U p) : hoR R T = hoR R U := by
  unfold hoR
  split
  · rfl
  · rename_i e
    rw [ht _ (hoP_lt h e)]
theorem tk1_T {R T U : Nat → Nat} (h : okW R) (ht : ∀ p, p < R 0 → T p = U p) (al : Bool) : tk1 R T al = tk1 R U al := by
  unfold tk1
  rw [hoR_T (okW_ba h) (fun p hp => ht p (by rw [eqG_ba R 0 (by omega)] at hp; exact hp))]
theorem tk2_T {R T U : Nat → Nat} (h : okW R) (ht : ∀ p, p < R 0 → T p = U p) (al : Bool) : tk2 R T al = tk2 R U al := by
  unfold tk2
  rw [tk1_T h ht al]
theorem tk3_T {R T U : Nat → Nat} (h : okW R) (ht : ∀ p, p < R 0 → T p = U p) (al : Bool) : tk3 R T al = tk3 R U al := by
  unfold tk3
  rw [tk2_T h ht al]
  split
  · rename_i e
    obtain ⟨-, e2, e3⟩ := tkP_f h e
    rw [e3, ht _ (hoP_lt h e2)]
  · rfl
theorem tkR_T {R T U : Nat → Nat} (h : okW R) (ht : ∀ p, p < R 0 → T p = U p) (al : Bool) : tkR R T al = tkR R U al := by
  unfold tkR
  rw [tk3_T h ht al]
theorem gs_T {T U : Nat → Nat} {calm : Bool} : ∀ {n : Nat} {R : Nat → Nat}, okW R → (∀ p, p < R 0 → T p = U p) → gsR T calm n R = gsR U calm n R ∧ gsN T calm n R = gsN U calm n R
  | 0, _, _, _ => ⟨rfl, rfl⟩
  | n + 1, R, h, ht => by
    obtain ⟨a, b⟩ := ok_dr h calm
    have e := tkR_T a (T := T) (U := U) (fun p hp => ht p (by rw [b 0 (by omega)] at hp; exact hp)) (drA R calm)
    obtain ⟨c, f⟩ := ok_tk a U (drA R calm)
    have ih := gs_T (T := T) (U := U) (calm := calm) (n := n) c (fun p hp => ht p (by rw [f 0 (by omega), b 0 (by omega)] at hp; exact hp))
    unfold gsR gsN
    rw [e]
    exact ⟨ih.1, by rw [ih.2]⟩
theorem ok_gs {T : Nat → Nat} {calm : Bool} : ∀ {n : Nat} {R : Nat → Nat}, okW R → okW (gsR T calm n R) ∧ eqX R (gsR T calm n R)
  | 0, R, h => ⟨h, eqX_rf R⟩
  | n + 1, R, h => by
    obtain ⟨a, b⟩ := ok_dr h calm
    obtain ⟨c, f⟩ := ok_tk a T (drA R calm)
    obtain ⟨e, g⟩ := ok_gs (T := T) (calm := calm) (n := n) c
    exact ⟨e, eqX_tr b (eqX_tr f g)⟩
theorem gsN_le {T : Nat → Nat} {calm : Bool} : ∀ {n : Nat} {R : Nat → Nat}, gsN T calm n R ≤ n
  | 0, _ => Nat.le_refl 0
  | n + 1, R => by
    unfold gsN
    have := gsN_le (T := T) (calm := calm) (n := n) (R := tkR (drR R calm) T (drA R calm))
    have h2 := Bool.toNat_le (tkB (drR R calm) (drA R calm))
    omega
