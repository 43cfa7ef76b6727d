/-! conditions of the law, closed -/
theorem conds {X : gv_X} {G : gv_Sh} {j : Nat → Nat → Int64} {cc : gv_Rs} (hp263 : oX12 G 263) : ∀ f g, g ≤ f → ∀ k d, (∀ {A : Nat → Nat → Nat}, (A 263 11 ≤ 400) → (A 263 10 ≤ A 263 11) → (∀ i, i < 400 → A 269 i < 4294967296) → (A 263 16 + 1 ≤ A 263 10) → (A 263 13 ≤ 6) → (5 * (A 263 11 - A 263 10) + 1 ≤ g) → (A 263 13 = k) → ∃ A1 : Nat → Nat → Nat, Ev X (d + 3 * (6 - k) + 6) gvm_238 0 (gv_enter [.ref 263] 2) [] (G, (mI A, j), cc) (.inl (some (.int (zo (pG (A 269) (A 263 11) g 0 (A 263 13) (A 263 10)).1))), (G, (mI A1, j), cc)) ∧ (lwP A A1 (pG (A 269) (A 263 11) g 0 (A 263 13) (A 263 10)))) ∧ (∀ {A : Nat → Nat → Nat}, (A 263 11 ≤ 400) → (A 263 10 ≤ A 263 11) → (∀ i, i < 400 → A 269 i < 4294967296) → (A 263 16 + 1 ≤ A 263 10) → (A 263 13 ≤ 6) → (5 * (A 263 11 - A 263 10) + 2 ≤ g) → (A 263 13 = k) → ∃ A1 : Nat → Nat → Nat, Ev X (d + 3 * (6 - k) + 7) gvm_239 0 (gv_enter [.ref 263] 1) [] (G, (mI A, j), cc) (.inl (some (.int (zo (pG (A 269) (A 263 11) g 1 (A 263 13) (A 263 10)).1))), (G, (mI A1, j), cc)) ∧ (lwP A A1 (pG (A 269) (A 263 11) g 1 (A 263 13) (A 263 10)))) ∧ (∀ {A : Nat → Nat → Nat}, (A 263 11 ≤ 400) → (A 263 10 ≤ A 263 11) → (∀ i, i < 400 → A 269 i < 4294967296) → (A 263 16 + 1 ≤ A 263 10) → (A 263 13 ≤ 6) → (5 * (A 263 11 - A 263 10) + 4 ≤ g) → (A 263 13 = k) → ∃ A1 : Nat → Nat → Nat, Ev X (d + 3 * (6 - k) + 8) gvm_240 0 (gv_enter [.ref 263] 1) [] (G, (mI A, j), cc) (.inl (some (.int (zo (pG (A 269) (A 263 11) g 2 (A 263 13) (A 263 10)).1))), (G, (mI A1, j), cc)) ∧ (lwP A A1 (pG (A 269) (A 263 11) g 2 (A 263 13) (A 263 10)))) := by
  intro f
  induction f with
  | zero =>
    intro g hg k d
    obtain rfl : g = 0 := by omega
    refine ⟨fun p0 p1 p2 p3 p4 p5 p6 => by omega, fun p0 p1 p2 p3 p4 p5 p6 => by omega, fun p0 p1 p2 p3 p4 p5 p6 => by omega⟩
  | succ f ih =>
    intro g hg k d
    by_cases hgf : g ≤ f
    · exact ih g hgf k d
    · obtain rfl : g = f + 1 := by omega
      have a0 : (∀ {A : Nat → Nat → Nat}, (A 263 11 ≤ 400) → (A 263 10 ≤ A 263 11) → (∀ i, i < 400 → A 269 i < 4294967296) → (A 263 16 + 1 ≤ A 263 10) → (A 263 13 ≤ 6) → (5 * (A 263 11 - A 263 10) + 1 ≤ (f + 1)) → (A 263 13 = k) → ∃ A1 : Nat → Nat → Nat, Ev X (d + 3 * (6 - k) + 6) gvm_238 0 (gv_enter [.ref 263] 2) [] (G, (mI A, j), cc) (.inl (some (.int (zo (pG (A 269) (A 263 11) (f + 1) 0 (A 263 13) (A 263 10)).1))), (G, (mI A1, j), cc)) ∧ (lwP A A1 (pG (A 269) (A 263 11) (f + 1) 0 (A 263 13) (A 263 10)))) := by
        intro A p0 p1 p2 p3 p4 p5 p6
        subst p6
        obtain ⟨_, h, A1, rfl, hp⟩ := r_atom (X := X) (d := d + 3 * (6 - A 263 13)) (G := G) (A := A) (j := j) (cc := cc) (f := f) (P := fun r => ∃ A1, r = (.inl (some (.int (zo (pG (A 269) (A 263 11) (f + 1) 0 (A 263 13) (A 263 10)).1))), (G, (mI A1, j), cc)) ∧ lwP A A1 (pG (A 269) (A 263 11) (f + 1) 0 (A 263 13) (A 263 10))) hp263 (fun {B} q0 q1 q2 q3 q4 q5 q6 => by
          have e : d + 3 * (6 - A 263 13) + 5 = d + 3 * (6 - (A 263 13 + 1)) + 8 := by omega
          rw [e]
          exact (ih f (Nat.le_refl _) (A 263 13 + 1) d).2.2 q0 q1 q2 q3 q4 q5 q6) (fun {B} q0 q1 q2 q3 q4 q5 q6 => by
          have e : d + 3 * (6 - A 263 13) + 5 = (d + 2) + 3 * (6 - (A 263 13 + 1)) + 6 := by omega
          rw [e]
          exact (ih f (Nat.le_refl _) (A 263 13 + 1) (d + 2)).1 q0 q1 q2 q3 q4 q5 q6) p0 p1 p2 p3 p4 p5 (fun k i hi h => pG_b f 0 k i hi h) (fun k i hi h => pG_b f 2 k i hi h) (fun A1 h => ⟨A1, rfl, h⟩)
        exact ⟨A1, h, hp⟩
      have a1 : (∀ {A : Nat → Nat → Nat}, (A 263 11 ≤ 400) → (A 263 10 ≤ A 263 11) → (∀ i, i < 400 → A 269 i < 4294967296) → (A 263 16 + 1 ≤ A 263 10) → (A 263 13 ≤ 6) → (5 * (A 263 11 - A 263 10) + 2 ≤ (f + 1)) → (A 263 13 = k) → ∃ A1 : Nat → Nat → Nat, Ev X (d + 3 * (6 - k) + 7) gvm_239 0 (gv_enter [.ref 263] 1) [] (G, (mI A, j), cc) (.inl (some (.int (zo (pG (A 269) (A 263 11) (f + 1) 1 (A 263 13) (A 263 10)).1))), (G, (mI A1, j), cc)) ∧ (lwP A A1 (pG (A 269) (A 263 11) (f + 1) 1 (A 263 13) (A 263 10)))) := by
        intro A p0 p1 p2 p3 p4 p5 p6
        subst p6
        obtain ⟨_, h, A1, rfl, hp⟩ := r_allOf (X := X) (d := d + 3 * (6 - A 263 13)) (G := G) (A := A) (j := j) (cc := cc) (f := f) (P := fun r => ∃ A1, r = (.inl (some (.int (zo (pG (A 269) (A 263 11) (f + 1) 1 (A 263 13) (A 263 10)).1))), (G, (mI A1, j), cc)) ∧ lwP A A1 (pG (A 269) (A 263 11) (f + 1) 1 (A 263 13) (A 263 10))) hp263 (fun g hg {B} q0 q1 q2 q3 q4 q5 q6 => (ih g hg (A 263 13) d).1 q0 q1 q2 q3 q4 q5 q6) p0 p1 p2 p3 p4 p5 (fun A1 h => ⟨A1, rfl, h⟩)
        exact ⟨A1, h, hp⟩
      refine ⟨a0, a1, ?_⟩
      intro A p0 p1 p2 p3 p4 p5 p6
      subst p6
      obtain ⟨_, h, A1, rfl, hp⟩ := r_condS (X := X) (d := d + 3 * (6 - A 263 13)) (G := G) (A := A) (j := j) (cc := cc) (f := f) (P := fun r => ∃ A1, r = (.inl (some (.int (zo (pG (A 269) (A 263 11) (f + 1) 2 (A 263 13) (A 263 10)).1))), (G, (mI A1, j), cc)) ∧ lwP A A1 (pG (A 269) (A 263 11) (f + 1) 2 (A 263 13) (A 263 10))) hp263 (fun g hg {B} q0 q1 q2 q3 q4 q5 q6 => (ih g hg (A 263 13) d).2.1 q0 q1 q2 q3 q4 q5 q6) p0 p1 p2 p3 p4 p5 (fun A1 h => ⟨A1, rfl, h⟩)
      exact ⟨A1, h, hp⟩
theorem r_readCond {X : gv_X} {d : Nat} {G : gv_Sh} {A : Nat → Nat → Nat} {j : Nat → Nat → Int64} {cc : gv_Rs} (hp263 : oX12 G 263) (p0 : A 263 11 ≤ 400) (p1 : A 263 10 ≤ A 263 11) (p2 : ∀ i, i < 400 → A 269 i < 4294967296) (p3 : A 263 16 + 1 ≤ A 263 10) (p4 : A 263 13 = 0) : ∃ A1 : Nat → Nat → Nat, Ev X (d + 26) gvm_240 0 (gv_enter [.ref 263] 1) [] (G, (mI A, j), cc) (.inl (some (.int (zo (pG (A 269) (A 263 11) 2100 2 0 (A 263 10)).1))), (G, (mI A1, j), cc)) ∧ (lwP A A1 (pG (A 269) (A 263 11) 2100 2 0 (A 263 10))) := by
  have h := (conds (X := X) (G := G) (j := j) (cc := cc) hp263 2100 2100 (Nat.le_refl _) 0 d).2.2 (A := A) p0 p1 p2 p3 (by omega) (by omega) p4
  rw [p4] at h
  exact h
