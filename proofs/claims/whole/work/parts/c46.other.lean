/-! the law's other cases: what stays between two calls -/
theorem sx8_32 {a : Nat} (h : a < 256) : sx8 a < 4294967296 := by
  unfold sx8
  split <;> omega
def md9 (C : Nat → Nat → Nat) : Nat → Nat → Nat := gw C 269 (fun i => C 269 i % 4294967296)
theorem md9_I (C : Nat → Nat → Nat) : mI (md9 C) = mI C := by
  funext q k
  show nI (md9 C q k) = nI (C q k)
  unfold md9 gw
  by_cases c : q = 269
  · rw [if_pos c, c]; exact nn_mod _
  · rw [if_neg c]
theorem md9_r {C : Nat → Nat → Nat} {q : Nat} (h : q ≠ 269) : md9 C q = C q := by unfold md9 gw; rw [if_neg h]
theorem md9_9 (C : Nat → Nat → Nat) (i : Nat) : md9 C 269 i = C 269 i % 4294967296 := by unfold md9 gw; rw [if_pos rfl]
theorem ivT_le {A : Nat → Nat → Nat} {j : Nat → Nat → Int64} (h : ivI A j) : A 0 1 ≤ 400 := by rw [h.2.2.2.1.1]; exact h.2.2.1.2.1
theorem fdU_lt {a b c d e k : Nat} : fdU a b c d e k < 256 := Nat.mod_lt _ (by decide)
theorem ivI_feed {A B C : Nat → Nat → Nat} {j : Nat → Nat → Int64} {a b c d e : Nat} (h : ivI A j) (k : ((A 0 1 + 20 ≤ 400 → B 0 1 = A 0 1 + 20 ∧ ∀ k, k < 20 → B 1 (A 0 1 + k) = fdU a b c d e k)) ∧ ((¬ A 0 1 + 20 ≤ 400 → B = A)) ∧ (∀ i, i < A 0 1 → B 1 i = A 1 i) ∧ (∀ i, i ≠ 1 → B 0 i = A 0 i) ∧ (∀ q, q ≠ 0 → q ≠ 1 → B q = A q)) (m : (∀ q, q ≠ 263 → q ≠ 269 → q ≠ 270 → C q = B q) ∧ (C 263 9 = if A 0 1 + 20 ≤ 400 then A 0 1 + 20 else A 0 1) ∧ (∀ k, k ≠ 0 → k ≠ 9 → C 263 k = B 263 k) ∧ (∀ i, i < A 0 1 → C 269 i = B 269 i) ∧ (A 0 1 + 20 ≤ 400 → ∀ k, k < 20 → C 269 (A 0 1 + k) = fdB a b c d e k)) : ivI (md9 C) j := by
  obtain ⟨k1, k2, k3, k4, k5⟩ := k
  obtain ⟨m1, m2, m3, m4, m5⟩ := m
  have E : ∀ p, p ≠ 0 → p ≠ 1 → p ≠ 263 → p ≠ 269 → p ≠ 270 → md9 C p = A p := fun p a b c d e => (md9_r d).trans ((m1 p c d e).trans (k5 p a b))
  have c0 : ∀ x, md9 C 0 x = B 0 x := fun x => by rw [md9_r (by decide), m1 0 (by decide) (by decide) (by decide)]
  have c1 : ∀ x, md9 C 1 x = B 1 x := fun x => by rw [md9_r (by decide), m1 1 (by decide) (by decide) (by decide)]
  have b3 : B 263 = A 263 := k5 263 (by decide) (by decide)
  have b9 : B 269 = A 269 := k5 269 (by decide) (by decide)
  have c3 : ∀ x, x ≠ 0 → x ≠ 9 → md9 C 263 x = A 263 x := fun x a b => by rw [md9_r (by decide), m3 x a b, b3]
  have c9 : md9 C 263 9 = if A 0 1 + 20 ≤ 400 then A 0 1 + 20 else A 0 1 := by rw [md9_r (by decide)]; exact m2
  have t0 := ivT_le h
  refine ⟨?_, TrJ_of h.2.1 (E 273 (by decide) (by decide) (by decide) (by decide) (by decide)) rfl, ⟨by rw [c3 7 (by decide) (by decide)]; exact h.2.2.1.1, by rw [c9]; split <;> omega, by rw [c3 6 (by decide) (by decide)]; exact h.2.2.1.2.2.1, fun i hi => by rw [md9_9]; exact Nat.mod_lt _ (by decide)⟩, ⟨?_, ?_, fun i hi => ?_⟩, ivP_of h.2.2.2.2.1 (c3 6 (by decide) (by decide)) (E 265 (by decide) (by decide) (by decide) (by decide) (by decide)) (by rw [c0]; exact k4 6 (by decide)) (fun p hp => E p (by omega) (by omega) (by omega) (by omega) (by omega)), ivQ_of h.2.2.2.2.2 (c3 7 (by decide) (by decide)) (fun i _ => by rw [E 264 (by decide) (by decide) (by decide) (by decide) (by decide)]) (E 268 (by decide) (by decide) (by decide) (by decide) (by decide)) (fun p hp => E p (by omega) (by omega) (by omega) (by omega) (by omega))⟩
  · rw [E 264 (by decide) (by decide) (by decide) (by decide) (by decide)]
    exact cK_of h.1 (fun p hp => E p (by omega) (by omega) (by omega) (by omega) (by omega))
  · rw [c0, c9]
    by_cases z : A 0 1 + 20 ≤ 400
    · rw [if_pos z]; exact (k1 z).1
    · rw [if_neg z, k2 z]
  · rw [c0, k4 2 (by decide), c3 14 (by decide) (by decide)]; exact h.2.2.2.1.2.1
  · rw [c9] at hi
    rw [c1, md9_9]
    have old : i < A 0 1 → B 1 i < 256 ∧ C 269 i % 4294967296 = sx8 (B 1 i) := fun lt => by
      rw [k3 i lt, m4 i lt, b9]
      have q := h.2.2.2.1.2.2 i (by rw [← h.2.2.2.1.1]; exact lt)
      refine ⟨q.1, ?_⟩
      rw [q.2]
      exact Nat.mod_eq_of_lt (sx8_32 q.1)
    by_cases z : A 0 1 + 20 ≤ 400
    · rw [if_pos z] at hi
      by_cases lt : i < A 0 1
      · exact old lt
      · obtain ⟨y, rfl⟩ : ∃ y, i = A 0 1 + y := ⟨i - A 0 1, by omega⟩
        rw [(k1 z).2 y (by omega), m5 z y (by omega)]
        exact ⟨fdU_lt, Nat.mod_eq_of_lt (sx8_32 fdU_lt)⟩
    · rw [if_neg z] at hi
      exact old hi
theorem ivI_end {A B C : Nat → Nat → Nat} {j : Nat → Nat → Int64} {n : Nat} (h : ivI A j) (k : B = if n ≤ A 0 1 then gu A 0 1 n else A) (m : (∀ q, q ≠ 263 → C q = B q) ∧ (C 263 9 = if n ≤ A 0 1 then n else A 0 1) ∧ (∀ k, k ≠ 0 → k ≠ 9 → C 263 k = B 263 k)) : ivI C j := by
  obtain ⟨m1, m2, m3⟩ := m
  have bq : ∀ p, p ≠ 0 → B p = A p := fun p hp => by
    rw [k]; split
    · exact gu_row hp
    · rfl
  have b0 : ∀ x, x ≠ 1 → B 0 x = A 0 x := fun x hx => by
    rw [k]; split
    · exact gu_k hx rfl
    · rfl
  have b1 : B 0 1 = if n ≤ A 0 1 then n else A 0 1 := by
    by_cases z : n ≤ A 0 1
    · rw [k, if_pos z, if_pos z]; exact gu_hit _ _ _ _
    · rw [k, if_neg z, if_neg z]
  have E : ∀ p, p ≠ 0 → p ≠ 263 → C p = A p := fun p a b => (m1 p b).trans (bq p a)
  have c3 : ∀ x, x ≠ 0 → x ≠ 9 → C 263 x = A 263 x := fun x a b => by rw [m3 x a b, bq 263 (by decide)]
  have t0 := ivT_le h
  have le : (if n ≤ A 0 1 then n else A 0 1) ≤ A 0 1 := by split <;> omega
  refine ⟨?_, TrJ_of h.2.1 (E 273 (by decide) (by decide)) rfl, ⟨by rw [c3 7 (by decide) (by decide)]; exact h.2.2.1.1, by rw [m2]; omega, by rw [c3 6 (by decide) (by decide)]; exact h.2.2.1.2.2.1, by rw [E 269 (by decide) (by decide)]; exact h.2.2.1.2.2.2⟩, ⟨?_, ?_, fun i hi => ?_⟩, ivP_of h.2.2.2.2.1 (c3 6 (by decide) (by decide)) (E 265 (by decide) (by decide)) (by rw [m1 0 (by decide)]; exact b0 6 (by decide)) (fun p hp => E p (by omega) (by omega)), ivQ_of h.2.2.2.2.2 (c3 7 (by decide) (by decide)) (fun i _ => by rw [E 264 (by decide) (by decide)]) (E 268 (by decide) (by decide)) (fun p hp => E p (by omega) (by omega))⟩
  · rw [E 264 (by decide) (by decide)]
    exact cK_of h.1 (fun p hp => E p (by omega) (by omega))
  · rw [m1 0 (by decide), b1, m2]
  · rw [m1 0 (by decide), b0 2 (by decide), c3 14 (by decide) (by decide)]; exact h.2.2.2.1.2.1
  · rw [m2] at hi
    rw [E 1 (by decide) (by decide), E 269 (by decide) (by decide)]
    exact h.2.2.2.1.2.2 i (by rw [← h.2.2.2.1.1]; omega)
theorem ivI_seed {A B : Nat → Nat → Nat} {j : Nat → Nat → Int64} {n : Nat} (h : ivI A j) (k : cK B (seR (A 264) 11 n) ∧ ∀ q, q ≠ 2 → B q = A q) : ivI (gu (gu B 263 0 0) 264 11 n) j := by
  obtain ⟨k1, k2⟩ := k
  have E : ∀ p, p ≠ 2 → p ≠ 263 → p ≠ 264 → gu (gu B 263 0 0) 264 11 n p = A p := fun p a b c => by rw [gu_row c, gu_row b]; exact k2 p a
  have e4 : gu (gu B 263 0 0) 264 11 n 264 = seR (A 264) 11 n := by
    funext i
    rw [gu_at, gu_row (by decide), k2 264 (by decide)]
    rfl
  have e3 : ∀ x, x ≠ 0 → gu (gu B 263 0 0) 264 11 n 263 x = A 263 x := fun x hx => by rw [gu_row (by decide), gu_k hx rfl, k2 263 (by decide)]
  refine ⟨?_, TrJ_of h.2.1 (E 273 (by decide) (by decide) (by decide)) rfl, ivM_of h.2.2.1 (fun x hx => e3 x (by omega)) (E 269 (by decide) (by decide) (by decide)), ivT_of h.2.2.2.1 (fun x hx => e3 x (by omega)) (E 269 (by decide) (by decide) (by decide)) (E 1 (by decide) (by decide) (by decide)) (fun x hx => by rw [E 0 (by decide) (by decide) (by decide)]), ivP_of h.2.2.2.2.1 (e3 6 (by decide)) (E 265 (by decide) (by decide) (by decide)) (by rw [E 0 (by decide) (by decide) (by decide)]) (fun p hp => E p (by omega) (by omega) (by omega)), ivQ_of h.2.2.2.2.2 (e3 7 (by decide)) (fun i hi => by rw [e4]; exact seR_ne (by omega)) (E 268 (by decide) (by decide) (by decide)) (fun p hp => E p (by omega) (by omega) (by omega))⟩
  rw [e4]
  exact cK_of k1 (fun p hp => by rw [gu_row (by omega), gu_row (by omega)])
