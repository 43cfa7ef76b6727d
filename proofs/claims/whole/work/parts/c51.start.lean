/-! what the constructors leave is a good start -/
theorem bool_2 {a b : Bool} (h : (a && b) = true) : a = true ∧ b = true := by
  rw [Bool.and_eq_true] at h; exact h
/-- both runs, told apart -/
theorem kC_r {f : gv_S → Bool} (h : kC f = true) : ∃ S T, kR1 = some (.inl none, S) ∧ S.1.1 = 263 ∧ S.2.2.1 = 0 ∧ kR2 S = some (.inl none, T) ∧ f T = true := by
  unfold kC at h
  cases e : kR1 with
  | none => rw [e] at h; cases h
  | some w =>
    rw [e] at h
    rcases w with ⟨v | x, S⟩
    · cases v with
      | some v => cases h
      | none =>
        obtain ⟨h1, h⟩ := bool_2 h
        obtain ⟨h2, h⟩ := bool_2 h
        refine ⟨S, ?_⟩
        cases e2 : kR2 S with
        | none => rw [e2] at h; cases h
        | some w =>
          rw [e2] at h
          rcases w with ⟨v | x, T⟩
          · cases v with
            | some v => cases h
            | none => exact ⟨T, rfl, Nat.eq_of_beq_eq_true h1, Nat.eq_of_beq_eq_true h2, rfl, h⟩
          · cases h
    · cases h
/-- one pair for all -/
theorem kC_all : ∃ S T, kR1 = some (.inl none, S) ∧ S.1.1 = 263 ∧ S.2.2.1 = 0 ∧ kR2 S = some (.inl none, T) ∧ kRo T = true ∧ kI1 T = true ∧ kI2 T = true ∧ kI3 T = true ∧ ∀ n, n < 7 → kSh n T = true := by
  obtain ⟨S, T, a, b, c, d, e⟩ := kC_r kC_o
  have X : ∀ f, kC f = true → f T = true := fun f h => by
    obtain ⟨S', T', a', b', c', d', e'⟩ := kC_r h
    rw [a] at a'
    cases a'
    rw [d] at d'
    cases d'
    exact e'
  refine ⟨S, T, a, b, c, d, e, X _ kC_i1, X _ kC_i2, X _ kC_i3, fun n hn => ?_⟩
  rcases (by omega : n = 0 ∨ n = 1 ∨ n = 2 ∨ n = 3 ∨ n = 4 ∨ n = 5 ∨ n = 6) with rfl | rfl | rfl | rfl | rfl | rfl | rfl
  · exact X _ kC_s0
  · exact X _ kC_s1
  · exact X _ kC_s2
  · exact X _ kC_s3
  · exact X _ kC_s4
  · exact X _ kC_s5
  · exact X _ kC_s6
theorem kSh_q {T : gv_S} (h : ∀ n, n < 7 → kSh n T = true) : ∀ q, q < 279 → T.1.2.1 q = gK q ∧ ∀ k, k < 32 → T.1.2.2 q k = gR q k := fun q hq => by
  have a := allN_iff.mp (h (q / 40) (by omega)) (q % 40) (by omega)
  rw [show 40 * (q / 40) + q % 40 = q by omega] at a
  have b : kS1 T q = true := by
    cases e : Nat.ble 279 q with
    | true => exact absurd (Nat.le_of_ble_eq_true e) (by omega)
    | false => rw [e] at a; exact a
  obtain ⟨b1, b⟩ := bool_2 b
  obtain ⟨b2, b3⟩ := bool_2 b
  refine ⟨?_, fun k hk => oE_t (allN_iff.mp b3 k hk)⟩
  have e1 := Nat.eq_of_beq_eq_true b1
  have e2 := Nat.eq_of_beq_eq_true b2
  show ((T.1.2.1 q).1, (T.1.2.1 q).2) = gK q
  rw [e1, e2]
theorem okW_r0 : okW r0N := by
  have g : ∀ i, r0N i ≤ 2 := fun i => by unfold r0N; split <;> (try split) <;> omega
  have z : ∀ i, i ≠ 5 → ¬ (i = 6 ∨ i = 11 ∨ i = 104 ∨ i = 117) → r0N i = 0 := fun i a b => by unfold r0N; rw [if_neg a, if_neg b]
  refine ⟨by decide, fun k hk => by have := g (12 + k); omega, fun k hk => absurd hk (Nat.not_lt_zero _), fun k hk => by have := g (22 + k); omega, fun p hp => ?_, fun p hp => absurd hp (Nat.not_lt_zero _), fun q hq => ?_, fun k hk => by have := g (128 + k); omega⟩
  · have y : ∀ i, i < 9 → r0N (30 + 9 * p + i) = 0 := fun i hi => z _ (by omega) (by omega)
    exact ⟨by show r0N (30 + 9 * p + 0) ≤ 3; rw [y 0 (by decide)]; decide, by show r0N (30 + 9 * p + 1) ≤ 1; rw [y 1 (by decide)]; decide, by show r0N (30 + 9 * p + 2) ≤ 1; rw [y 2 (by decide)]; decide, fun k hk => ⟨by show r0N (30 + 9 * p + (3 + 2 * k)) ≤ 10; rw [y _ (by omega)]; decide, by show r0N (30 + 9 * p + (3 + 2 * k + 1)) ≤ 7; rw [y _ (by omega)]; decide⟩⟩
  · rcases (by omega : q = 0 ∨ q = 1) with rfl | rfl
    · exact ⟨by decide, by decide, by decide, by decide, by decide, fun k hk => by have := g (102 + 13 * 0 + (5 + k)); show r0N (102 + 13 * 0 + (5 + k)) ≤ 3; omega⟩
    · exact ⟨by decide, by decide, by decide, by decide, by decide, fun k hk => by have := g (102 + 13 * 1 + (5 + k)); show r0N (102 + 13 * 1 + (5 + k)) ≤ 3; omega⟩
/-- the memory behind the constructors -/
def stF (A : Nat → Nat → Nat) (j : Nat → Nat → Int64) : Prop := (∀ i, i < 368 → A 264 i = r0N i) ∧ (∀ i, i < 64 → A 55 i = 4294967294) ∧ (∀ i, i < 264 → A 61 i = 4294967294) ∧ (∀ i, i < 24 → A 5 i = 0 ∧ A 6 i = 0) ∧ (∀ i, i < 8 → A 10 i = 0 ∧ A 12 i = 0 ∧ A 14 i = 0 ∧ A 273 i = 0 ∧ j 274 i = 0) ∧ ∀ x, x ∈ kL → A x.1 x.2.1 = x.2.2
theorem stF_T {T : gv_S} (h1 : kI1 T = true) (h2 : kI2 T = true) (h3 : kI3 T = true) : stF (kA T) T.2.1.2 := by
  obtain ⟨h2, h4⟩ := bool_2 h2
  obtain ⟨h3, h5⟩ := bool_2 h3
  obtain ⟨h5, h6⟩ := bool_2 h5
  refine ⟨fun i hi => Nat.eq_of_beq_eq_true (allN_iff.mp h1 i hi), fun i hi => Nat.eq_of_beq_eq_true (allN_iff.mp h2 i hi), fun i hi => Nat.eq_of_beq_eq_true (allN_iff.mp h4 i hi), fun i hi => ?_, fun i hi => ?_, fun x hx => Nat.eq_of_beq_eq_true (List.all_eq_true.mp h6 x hx)⟩
  · obtain ⟨a, b⟩ := bool_2 (allN_iff.mp h3 i hi)
    exact ⟨Nat.eq_of_beq_eq_true a, Nat.eq_of_beq_eq_true b⟩
  · obtain ⟨a, b⟩ := bool_2 (allN_iff.mp h5 i hi)
    obtain ⟨b, c⟩ := bool_2 b
    obtain ⟨c, d⟩ := bool_2 c
    obtain ⟨d, e⟩ := bool_2 d
    exact ⟨Nat.eq_of_beq_eq_true a, Nat.eq_of_beq_eq_true b, Nat.eq_of_beq_eq_true c, Nat.eq_of_beq_eq_true d, of_decide_eq_true e⟩
theorem ivI_0s {A : Nat → Nat → Nat} {j : Nat → Nat → Int64} (h : stF A j) (b : ∀ i, A 269 i < 4294967296) : ivI A j := by
  obtain ⟨h1, h2, h3, h4, h5, h6⟩ := h
  have s : ∀ q k v, (q, k, v) ∈ kL → A q k = v := fun q k v hv => h6 (q, k, v) hv
  have o : okW (A 264) := okW_lo okW_r0 h1
  have r2 : A 264 2 = 0 := h1 2 (by decide)
  have w0 : rW A 2 r0N := by
    refine ⟨⟨s 3 0 0 (by decide), fun p hp => absurd hp (Nat.not_lt_zero _), fun z hz => ?_⟩, ⟨s 2 2 0 (by decide), fun k hk => absurd hk (Nat.not_lt_zero _)⟩, fun k hk => ?_, ⟨s 2 4 0 (by decide), s 2 5 2 (by decide), s 2 6 1 (by decide), s 2 7 0 (by decide), s 2 8 0 (by decide), s 2 9 0 (by decide), s 2 10 1 (by decide), s 2 11 0 (by decide)⟩, ⟨s 11 0 0 (by decide), s 11 1 0 (by decide), s 11 2 1 (by decide), s 11 3 0 (by decide), s 11 4 0 (by decide), by rw [s 11 5 0 (by decide)]; decide, fun k hk => ?_⟩, ⟨s 13 0 0 (by decide), s 13 1 0 (by decide), s 13 2 1 (by decide), s 13 3 0 (by decide), s 13 4 0 (by decide), by rw [s 13 5 0 (by decide)]; decide, fun k hk => ?_⟩, s 15 0 0 (by decide), by rw [s 15 1 0 (by decide)]; decide, fun i x hi => absurd hi (Nat.not_lt_zero _)⟩
    · have a : A (2 + 1 + 2) z = 0 := (h4 z hz).1
      have c : A (2 + 1 + 3) z = 0 := (h4 z hz).2
      rw [a, c]; exact ⟨by decide, by decide⟩
    · have a : A (2 + 8) k = 0 := (h5 k hk).1
      rw [a]
      unfold r0N; rw [if_neg (by omega), if_neg (by omega)]
    · have a : A (2 + 9 + 1) k = 0 := (h5 k hk).2.1
      rw [a]
      unfold r0N; rw [if_neg (by omega), if_neg (by omega)]
    · have a : A (2 + 11 + 1) k = 0 := (h5 k hk).2.2.1
      rw [a]
      unfold r0N; rw [if_neg (by omega), if_neg (by omega)]
  refine ⟨⟨o, rW_lo w0 okW_r0 h1, fun g p w a b c => Or.inl (h2 _ (by omega)), fun z => absurd (r2.symm.trans z) (by decide), ⟨(s 48 0 0 (by decide)).trans r2.symm, fun _ => s 48 1 0 (by decide), fun z => absurd (r2.symm.trans z) (by decide)⟩, smI_no h3⟩, ⟨fun p hp R oR l e => absurd ((h5 p hp).2.2.2.2.symm.trans e) (numA_ne oR hp), fun p hp => by rw [(h5 p hp).2.2.2.1]; decide⟩, ⟨by rw [s 263 7 0 (by decide)]; decide, by rw [s 263 9 0 (by decide)]; decide, by rw [s 263 6 0 (by decide)]; decide, fun i _ => b i⟩, ⟨by rw [s 0 1 0 (by decide), s 263 9 0 (by decide)], by rw [s 0 2 4294967295 (by decide), s 263 14 4294967295 (by decide)], fun i hi => absurd hi (by rw [s 263 9 0 (by decide)]; omega)⟩, ⟨by rw [s 0 6 0 (by decide), s 263 6 0 (by decide)], fun z => absurd ((s 263 6 0 (by decide)).symm.trans z) (by decide)⟩, ivQ_no (s 76 1 0 (by decide)) (by rw [s 76 2 0 (by decide)]; decide) (s 263 7 0 (by decide))⟩
