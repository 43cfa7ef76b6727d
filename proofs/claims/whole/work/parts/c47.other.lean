/-! the law's other cases, second part -/
theorem ivI_undo {A B C : Nat → Nat → Nat} {j : Nat → Nat → Int64} {Q : Nat → Nat → Nat} (h : ivI A j) (hQ : hI A Q) (hq : A 76 1 = A 263 7 ∧ ∀ a, a < A 263 7 → eqV (A 264) (Q a) ∧ ∀ i, i < 368 → A 268 (368 * (A 263 7 - 1 - a) + i) = Q a i) (k : ((A 76 1 = 0 → cK B (A 264) ∧ B 76 1 = 0 ∧ hI B Q)) ∧ ((¬ A 76 1 = 0 → cK B (unR (A 264) (Q 0)) ∧ hI B (fun a => Q (a + 1)) ∧ B 76 1 = A 76 1 - 1)) ∧ (frJ A B)) (m : (A 76 1 ≠ 0 → ∀ i, C 264 i = if i < 368 then A 268 (368 * (A 76 1 - 1) + i) else A 264 i) ∧ (A 76 1 = 0 → C 264 = A 264) ∧ (∀ q, q ≠ 263 → q ≠ 264 → C q = B q) ∧ (C 263 0 = 0) ∧ (C 263 7 = A 76 1 - 1) ∧ (∀ k, k ≠ 0 → k ≠ 7 → C 263 k = B 263 k)) : ivI C j := by
  obtain ⟨k1, k2, k3⟩ := k
  obtain ⟨m1, m2, m3, m4, m5, m6⟩ := m
  have hm := h.2.2.1.1
  have E : ∀ p, p < 2 ∨ (31 < p ∧ p < 55) ∨ (63 < p ∧ p < 76) ∨ p = 77 ∨ (257 < p ∧ p ≠ 263 ∧ p ≠ 264) → C p = A p := fun p hp => (m3 p (by omega) (by omega)).trans (k3 p (by omega) (by omega) (by omega) (by omega))
  have c3 : ∀ x, x ≠ 0 → x ≠ 7 → C 263 x = A 263 x := fun x a b => by rw [m6 x a b, frJ_hi k3 263 (by decide)]
  have tail : cK C (C 264) → ivQ C → ivI C j := fun a b => ⟨a, TrJ_of h.2.1 (E 273 (by omega)) rfl, ⟨by rw [m5]; omega, by rw [c3 9 (by decide) (by decide)]; exact h.2.2.1.2.1, by rw [c3 6 (by decide) (by decide)]; exact h.2.2.1.2.2.1, by rw [E 269 (by omega)]; exact h.2.2.1.2.2.2⟩, ivT_of h.2.2.2.1 (fun x hx => c3 x (by omega) (by omega)) (E 269 (by omega)) (E 1 (by omega)) (fun x hx => by rw [E 0 (by omega)]), ivP_of h.2.2.2.2.1 (c3 6 (by decide) (by decide)) (E 265 (by omega)) (by rw [E 0 (by omega)]) (fun p hp => E p (by omega)), b⟩
  have cb : ∀ p, p < 263 → C p = B p := fun p hp => m3 p (by omega) (by omega)
  by_cases z : A 76 1 = 0
  · obtain ⟨u1, u2, u3⟩ := k1 z
    refine tail (by rw [m2 z]; exact cK_of u1 (fun p hp => cb p (by omega))) (ivQ_no ?_ ?_ (by rw [m5, z]))
    · rw [cb 76 (by decide)]; exact u2
    · rw [cb 76 (by decide)]; exact u3.2.1
  · obtain ⟨u1, u2, u3⟩ := k2 z
    have e4 : C 264 = unR (A 264) (Q 0) := by
      funext i
      rw [m1 z i]
      unfold unR
      by_cases c : i < 368
      · rw [if_pos c, if_pos c]
        have := (hq.2 0 (by omega)).2 i c
        rw [Nat.sub_zero] at this
        rw [hq.1]; exact this
      · rw [if_neg c, if_neg c]
    have v0 := (hq.2 0 (by omega)).1
    refine tail (by rw [e4]; exact cK_of u1 (fun p hp => cb p (by omega))) ⟨fun a => Q (a + 1), hI_of u2 (fun p hp => cb p (by omega)), by rw [cb 76 (by decide), u3, m5], fun a ha => ?_⟩
    rw [m5] at ha ⊢
    obtain ⟨w1, w2⟩ := hq.2 (a + 1) (by omega)
    refine ⟨fun i hi => ?_, fun i hi => ?_⟩
    · show Q (a + 1) i = _
      rw [e4, w1 i hi]
      unfold unR
      rw [if_pos (by omega)]
      exact (v0 i hi).symm
    · show _ = Q (a + 1) i
      rw [E 268 (by omega), ← w2 i hi, hq.1]
      congr 1
      omega
theorem ivI_image {A B C : Nat → Nat → Nat} {j : Nat → Nat → Int64} (h : ivI A j) (k : (rW B 32 (A 264)) ∧ (rRu B 70 (A 264)) ∧ (B 0 6 = 1) ∧ (∀ k, k ≠ 6 → B 0 k = A 0 k) ∧ (∀ q, q ≠ 0 → ¬ (32 ≤ q ∧ q ≤ 46) → ¬ (70 ≤ q ∧ q ≤ 75) → B q = A q)) (m : (∀ i, i < 1217 → C 265 i = A 264 i) ∧ (∀ q, q ≠ 263 → q ≠ 265 → C q = B q) ∧ (C 263 0 = 0) ∧ (C 263 6 = 1) ∧ (∀ k, k ≠ 0 → k ≠ 6 → C 263 k = B 263 k)) : ivI C j := by
  obtain ⟨k1, k2, k3, k4, k5⟩ := k
  obtain ⟨m1, m2, m3, m4, m5⟩ := m
  have E : ∀ p, p ≠ 0 → ¬ (32 ≤ p ∧ p ≤ 46) → ¬ (70 ≤ p ∧ p ≤ 75) → p ≠ 263 → p ≠ 265 → C p = A p := fun p a b c d e => (m2 p d e).trans (k5 p a b c)
  have c3 : ∀ x, x ≠ 0 → x ≠ 6 → C 263 x = A 263 x := fun x a b => by rw [m5 x a b, k5 263 (by omega) (by omega) (by omega)]
  have c0 : ∀ x, x ≠ 6 → C 0 x = A 0 x := fun x hx => by rw [m2 0 (by decide) (by decide)]; exact k4 x hx
  refine ⟨?_, TrJ_of h.2.1 (E 273 (by omega) (by omega) (by omega) (by omega) (by omega)) rfl, ⟨by rw [c3 7 (by decide) (by decide)]; exact h.2.2.1.1, by rw [c3 9 (by decide) (by decide)]; exact h.2.2.1.2.1, by rw [m4]; exact Nat.le_refl _, by rw [E 269 (by omega) (by omega) (by omega) (by omega) (by omega)]; exact h.2.2.1.2.2.2⟩, ivT_of h.2.2.2.1 (fun x hx => c3 x (by omega) (by omega)) (E 269 (by omega) (by omega) (by omega) (by omega) (by omega)) (E 1 (by omega) (by omega) (by omega) (by omega) (by omega)) (fun x hx => c0 x (by omega)), ⟨?_, fun _ => ?_⟩, ivQ_of h.2.2.2.2.2 (c3 7 (by decide) (by decide)) (fun i _ => by rw [E 264 (by omega) (by omega) (by omega) (by omega) (by omega)]) (E 268 (by omega) (by omega) (by omega) (by omega) (by omega)) (fun p hp => E p (by omega) (by omega) (by omega) (by omega) (by omega))⟩
  · rw [E 264 (by omega) (by omega) (by omega) (by omega) (by omega)]
    exact cK_of h.1 (fun p hp => E p (by omega) (by omega) (by omega) (by omega) (by omega))
  · rw [m2 0 (by decide) (by decide), k3, m4]
  · have o := h.1.1
    have l := h.1.2.2.2.1
    exact ⟨okW_lo o (fun i hi => m1 i (by omega)), okLw_B l m1, rW_fr (rW_lo k1 o (fun i hi => m1 i (by omega))) (fun p a b => m2 p (by omega) (by omega)), rRu_of (rRu_B k2 l m1) (fun p a b => m2 p (by omega) (by omega))⟩
theorem ivI_back {A B C : Nat → Nat → Nat} {j : Nat → Nat → Int64} (h : ivI A j) (k : ((A 0 6 = 0 → B = A)) ∧ ((A 0 6 = 1 → cK B (A 265) ∧ B 76 1 = 0 ∧ B 76 2 = A 76 2)) ∧ (∀ q, ¬ (2 ≤ q ∧ q ≤ 16) → ¬ (48 ≤ q ∧ q ≤ 53) → q ≠ 55 → q ≠ 61 → q ≠ 76 → B q = A q)) (m : (A 0 6 = 1 → ∀ i, C 264 i = if i < 1217 then A 265 i else A 264 i) ∧ (A 0 6 = 0 → C 264 = A 264) ∧ (∀ q, q ≠ 263 → q ≠ 264 → C q = B q) ∧ (C 263 0 = 0) ∧ (C 263 7 = if A 0 6 = 1 then 0 else A 263 7) ∧ (∀ k, k ≠ 0 → k ≠ 7 → C 263 k = B 263 k)) : ivI C j := by
  obtain ⟨k1, k2, k3⟩ := k
  obtain ⟨m1, m2, m3, m4, m5, m6⟩ := m
  have i6 : A 0 6 ≤ 1 := by rw [h.2.2.2.2.1.1]; exact h.2.2.1.2.2.1
  have bh : ∀ q, 76 < q → B q = A q := fun q hq => k3 q (by omega) (by omega) (by omega) (by omega) (by omega)
  have E : ∀ p, p < 2 ∨ (31 < p ∧ p < 48) ∨ (69 < p ∧ p < 76) ∨ (76 < p ∧ p ≠ 263 ∧ p ≠ 264) → C p = A p := fun p hp => (m3 p (by omega) (by omega)).trans (k3 p (by omega) (by omega) (by omega) (by omega) (by omega))
  have c3 : ∀ x, x ≠ 0 → x ≠ 7 → C 263 x = A 263 x := fun x a b => by rw [m6 x a b, bh 263 (by decide)]
  have c7 : C 263 7 ≤ 12 := by rw [m5]; have := h.2.2.1.1; split <;> omega
  have tail : cK C (C 264) → ivQ C → ivI C j := fun a b => ⟨a, TrJ_of h.2.1 (E 273 (by omega)) rfl, ⟨c7, by rw [c3 9 (by decide) (by decide)]; exact h.2.2.1.2.1, by rw [c3 6 (by decide) (by decide)]; exact h.2.2.1.2.2.1, by rw [E 269 (by omega)]; exact h.2.2.1.2.2.2⟩, ivT_of h.2.2.2.1 (fun x hx => c3 x (by omega) (by omega)) (E 269 (by omega)) (E 1 (by omega)) (fun x hx => by rw [E 0 (by omega)]), ivP_of h.2.2.2.2.1 (c3 6 (by decide) (by decide)) (E 265 (by omega)) (by rw [E 0 (by omega)]) (fun p hp => E p (by omega)), b⟩
  have cb : ∀ p, p < 263 → C p = B p := fun p hp => m3 p (by omega) (by omega)
  by_cases z : A 0 6 = 1
  · obtain ⟨u1, u2, u3⟩ := k2 z
    refine tail (cK_B (cK_of u1 (fun p hp => cb p (by omega))) (fun i hi => ?_)) (ivQ_no ?_ ?_ (by rw [m5, if_pos z]))
    · rw [m1 z i, if_pos hi]
    · rw [cb 76 (by decide)]; exact u2
    · rw [cb 76 (by decide), u3]; exact ivQ_2 h.2.2.2.2.2
  · have z0 : A 0 6 = 0 := by omega
    have eB := k1 z0
    have cA : ∀ p, p < 263 → C p = A p := fun p hp => by rw [cb p hp, eB]
    refine tail (by rw [m2 z0]; exact cK_of h.1 (fun p hp => cA p (by omega))) (ivQ_of h.2.2.2.2.2 (by rw [m5, if_neg z]) (fun i _ => by rw [m2 z0]) (E 268 (by omega)) (fun p hp => cA p (by omega)))
theorem be_code {A B C : Nat → Nat → Nat} {t : Nat → Nat} {E : Nat} {R : Nat → Nat} (o : okW R) (m : benP B C (raB t E R)) : C 263 0 = (spBe t E R).1 ∧ beN (raB t E R) = (spBe t E R).2 := by
  obtain ⟨f, m1, m2, m3⟩ := m
  unfold spBe beN
  by_cases z : (raB t E R).1 = 4294967295
  · rw [if_pos z, if_pos z]
    exact ⟨(m1 z).1, rfl⟩
  · have e : (raB t E R).2.1 1 = R 1 := (raB_k o z).1 1 (by omega)
    rw [if_neg z, if_neg z, e]
    by_cases y : R 1 = 12
    · rw [if_pos y, if_pos y]
      exact ⟨(m2 z (e.trans y)).1, rfl⟩
    · rw [if_neg y, if_neg y]
      exact ⟨(m3 z (fun w => y (e.symm.trans w))).1, rfl⟩
theorem la_code {B C : Nat → Nat → Nat} {t : Nat → Nat} {E : Nat} {R : Nat → Nat} (m : lawP B C (raL t E R)) : C 263 0 = (spLa t E R).1 ∧ lwN t E R = (spLa t E R).2 := by
  obtain ⟨f, m1, m2⟩ := m
  unfold spLa lwN
  by_cases z : (raL t E R).1 = 4294967295
  · rw [if_pos z, if_pos z]
    exact ⟨(m1 z).1, rfl⟩
  · rw [if_neg z, if_neg z]
    exact ⟨(m2 z).1, rfl⟩
/-- a text was told: what stays beside the rows -/
theorem ivI_x {A B C : Nat → Nat → Nat} {j : Nat → Nat → Int64} (h : ivI A j) (b01 : B 0 1 = 0) (b0 : ∀ k, k ≠ 1 → k ≠ 2 → B 0 k = A 0 k) (bf : ∀ q, (32 ≤ q ∧ q ≤ 46) ∨ (70 ≤ q ∧ q ≤ 75) ∨ 263 ≤ q → B q = A q) (f : frX B C) (e14 : B 0 2 = C 263 14) (c7 : C 263 7 ≤ 12) (ck : cK C (C 264)) (q : ivQ C) : ivI C j := by
  obtain ⟨f1, f2, f3⟩ := f
  have E : ∀ p, (32 ≤ p ∧ p ≤ 46) ∨ (70 ≤ p ∧ p ≤ 75) ∨ (263 < p ∧ p ≠ 264 ∧ p ≠ 266) → C p = A p := fun p hp => (f1 p (by omega) (by omega) (by omega)).trans (bf p (by omega))
  have c6 : C 263 6 = A 263 6 := by rw [f2 6 (by decide) (by decide) (by decide) (by decide) (by decide) (by decide) (by decide) (by decide) (by decide), bf 263 (by omega)]
  have c0 : C 0 = B 0 := f1 0 (by decide) (by decide) (by decide)
  exact ⟨ck, TrJ_of h.2.1 (E 273 (by omega)) rfl, ⟨c7, by rw [f3]; decide, by rw [c6]; exact h.2.2.1.2.2.1, by rw [E 269 (by omega)]; exact h.2.2.1.2.2.2⟩, ⟨by rw [c0, b01, f3], by rw [c0]; exact e14, fun i hi => absurd hi (by rw [f3]; omega)⟩, ivP_of h.2.2.2.2.1 c6 (E 265 (by omega)) (by rw [c0]; exact b0 6 (by decide) (by decide)) (fun p hp => E p (by omega)), q⟩
theorem ivI_be {A B C : Nat → Nat → Nat} {j : Nat → Nat → Int64} {t : Nat → Nat} {E : Nat} (h : ivI A j) (k : beP A B t E (A 264)) (m : benP B C (raB t E (A 264))) : ivI C j := by
  obtain ⟨k1, k2, k3, k4, k5, k6⟩ := k
  obtain ⟨f, m1, m2, m3⟩ := m
  have o := h.1.1
  have bh : ∀ q, 263 ≤ q → B q = A q := fun q hq => k6 q (by omega) (by omega) (by omega) (by omega) (by omega) (by omega)
  have bf : ∀ q, (32 ≤ q ∧ q ≤ 46) ∨ (70 ≤ q ∧ q ≤ 75) ∨ 263 ≤ q → B q = A q := fun q hq => k6 q (by omega) (by omega) (by omega) (by omega) (by omega) (by omega)
  have cb : ∀ p, p < 263 → C p = B p := fun p hp => f.1 p (by omega) (by omega) (by omega)
  have BAD : (spBe t E (A 264)).1 ≠ 0 → C 263 7 = B 263 7 → (∀ i, i < 1217 → C 264 i = B 264 i) → B 0 2 = C 263 14 → ivI C j := fun z a b c => by
    obtain ⟨q1, q2⟩ := k2 z
    have e7 : C 263 7 = A 263 7 := by rw [a, bh 263 (by decide)]
    have e4 : ∀ i, i < 1217 → C 264 i = A 264 i := fun i hi => by rw [b i hi, bh 264 (by decide)]
    refine ivI_x h k3 k5 bf f c (by rw [e7]; exact h.2.2.1.1) (cK_B (cK_of q1 (fun p hp => cb p (by omega))) e4) (ivQ_of h.2.2.2.2.2 e7 (fun i hi => e4 i (by omega)) (by rw [f.1 268 (by decide) (by decide) (by decide), bh 268 (by decide)]) (fun p hp => ?_))
    rw [cb p (by omega)]
    by_cases z6 : p = 76
    · rw [z6]; exact q2
    · exact k6 p (by omega) (by omega) (by omega) z6 (by omega) (by omega)
  by_cases z : (raB t E (A 264)).1 = 4294967295
  · obtain ⟨a, b, c, d⟩ := m1 z
    rw [if_pos z] at k4
    exact BAD (by unfold spBe; rw [if_pos z]; decide) c d (k4.trans b.symm)
  · rw [if_neg z] at k4
    have e : (raB t E (A 264)).2.1 1 = A 264 1 := (raB_k o z).1 1 (by omega)
    by_cases y : A 264 1 = 12
    · obtain ⟨a, b, c, d⟩ := m2 z (e.trans y)
      exact BAD (by unfold spBe; rw [if_neg z, if_pos y]; decide) c d (k4.trans b.symm)
    · obtain ⟨a, b, c, d⟩ := m3 z (fun w => y (e.symm.trans w))
      obtain ⟨q1, q2, q3⟩ := k1 (by unfold spBe; rw [if_neg z, if_neg y])
      refine ivI_x h k3 k5 bf f (k4.trans b.symm) (by rw [c]; decide) (by rw [d]; exact cK_of q1 (fun p hp => cb p (by omega))) (ivQ_no ?_ ?_ c)
      · rw [cb 76 (by decide)]; exact q2
      · rw [cb 76 (by decide), q3]; exact ivQ_2 h.2.2.2.2.2
theorem ivI_la {A B C : Nat → Nat → Nat} {j : Nat → Nat → Int64} {t : Nat → Nat} {E : Nat} (h : ivI A j) (k : leP A B t E (A 264)) (m : lawP B C (raL t E (A 264))) : ivI C j := by
  obtain ⟨k1, k2, k3, k4, k5, k6⟩ := k
  obtain ⟨f, m1, m2⟩ := m
  have bh : ∀ q, 263 ≤ q → B q = A q := fun q hq => k6 q (by omega) (by omega) (by omega) (by omega) (by omega) (by omega) (by omega)
  have bf : ∀ q, (32 ≤ q ∧ q ≤ 46) ∨ (70 ≤ q ∧ q ≤ 75) ∨ 263 ≤ q → B q = A q := fun q hq => k6 q (by omega) (by omega) (by omega) (by omega) (by omega) (by omega) (by omega)
  have cb : ∀ p, p < 263 → C p = B p := fun p hp => f.1 p (by omega) (by omega) (by omega)
  by_cases z : (raL t E (A 264)).1 = 4294967295
  · obtain ⟨a, b, c, d⟩ := m1 z
    rw [if_pos z] at k4
    obtain ⟨q1, q2⟩ := k2 z
    have e7 : C 263 7 = A 263 7 := by rw [c, bh 263 (by decide)]
    have e4 : ∀ i, i < 1217 → C 264 i = A 264 i := fun i hi => by rw [d i hi, bh 264 (by decide)]
    refine ivI_x h k3 k5 bf f (k4.trans b.symm) (by rw [e7]; exact h.2.2.1.1) (cK_B (cK_of q1 (fun p hp => cb p (by omega))) e4) (ivQ_of h.2.2.2.2.2 e7 (fun i hi => e4 i (by omega)) (by rw [f.1 268 (by decide) (by decide) (by decide), bh 268 (by decide)]) (fun p hp => ?_))
    rw [cb p (by omega)]
    by_cases z6 : p = 76
    · rw [z6]; exact q2
    · exact k6 p (by omega) (by omega) (by omega) (by omega) z6 (by omega) (by omega)
  · obtain ⟨a, b, c, d⟩ := m2 z
    rw [if_neg z] at k4
    obtain ⟨q1, q2, q3⟩ := k1 z
    refine ivI_x h k3 k5 bf f (k4.trans b.symm) (by rw [c]; decide) (cK_B (cK_of q1 (fun p hp => cb p (by omega))) d) (ivQ_no ?_ ?_ c)
    · rw [cb 76 (by decide)]; exact q2
    · rw [cb 76 (by decide), q3]; exact ivQ_2 h.2.2.2.2.2
