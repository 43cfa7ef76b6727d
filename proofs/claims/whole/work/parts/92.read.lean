/-! a whole text -/
def usM (A : Nat → Nat → Nat) : Nat → Nat → Nat := gu (gu (gu (gu (gu A 263 0 0) 263 11 (A 263 9)) 263 9 0) 263 10 0) 263 16 0
theorem usM_f (A : Nat → Nat → Nat) (k : Nat) : usM A 263 k = if k = 16 then 0 else if k = 10 then 0 else if k = 9 then 0 else if k = 11 then A 263 9 else if k = 0 then 0 else A 263 k := by
  unfold usM
  simp only [gu_at]
theorem usM_q {A : Nat → Nat → Nat} {q : Nat} (h : q ≠ 263) : usM A q = A q := by
  unfold usM
  rw [gu_ne h, gu_ne h, gu_ne h, gu_ne h, gu_ne h]
def raB (t : Nat → Nat) (L : Nat) (R : Nat → Nat) : Nat × (Nat → Nat) × Nat × Nat := if skB t L 0 = L then (0, R, skB t L 0, skB t L 0) else baS t L 15 R 0 (skB t L 0)
def raL (t : Nat → Nat) (L : Nat) (R : Nat → Nat) : Nat × (Nat → Nat) × Nat × Nat × Nat := if skB t L 0 = L then (0, R, 0, skB t L 0, skB t L 0) else laS t L 13 R 0 0 (skB t L 0)
def raN (b : Bool) (t : Nat → Nat) (L : Nat) (R : Nat → Nat) : Nat := if b = true then (raB t L R).1 else (raL t L R).1
def raP (b : Bool) (A B : Nat → Nat → Nat) : Prop := (b = true → B = rm (usM A) (raB (A 269) (A 263 9) (A 264)).2.1 (raB (A 269) (A 263 9) (A 264)).2.2.1 (raB (A 269) (A 263 9) (A 264)).2.2.2) ∧ (b = false → laP (usM A) B (raL (A 269) (A 263 9) (A 264)))
theorem r_readAll_p {X : gv_X} {d : Nat} {G : gv_Sh} {A : Nat → Nat → Nat} {j : Nat → Nat → Int64} {cc : gv_Rs} {P : gv_O × gv_S → Prop} {b : Bool} (hp263 : oX12 G 263) (p0 : A 263 9 ≤ 400) (p1 : ∀ i, i < 400 → A 269 i < 4294967296) (p2 : okW (A 264)) (hP : ∀ A1 : Nat → Nat → Nat, (raP b A A1) → P (.inl (some (.int (nI (raN b (A 269) (A 263 9) (A 264))))), (G, (mI A1, j), cc))) : EvP X (d + 29) gvm_243 0 (gv_enter [.ref 263, .int (zo b)] 3) [] (G, (mI A, j), cc) P := by
  have u10 : usM A 263 10 = 0 := usM_f A 10
  have u11 : usM A 263 11 = (A 263 9) := usM_f A 11
  have u16 : usM A 263 16 = 0 := usM_f A 16
  have u9 : usM A 269 = (A 269) := usM_q (by decide)
  have u4 : usM A 264 = (A 264) := usM_q (by decide)
  have bs := skB_b (t := (A 269)) (E := (A 263 9)) (Nat.zero_le _)
  refine w243 hp263 (fun A1 q1 => ?_)
  have hU : gu A1 263 16 0 = usM A := by rw [q1]; rfl
  have hA : A1 269 = (A 269) := by rw [q1, gu_ne (by decide), gu_ne (by decide), gu_ne (by decide), gu_ne (by decide)]
  rw [hU, hA, u10, u11]
  refine ⟨p0, Nat.zero_le _, p1, fun A2 q2 => ?_⟩
  have a10 : A2 263 10 = (skB (A 269) (A 263 9) 0) := by rw [q2, lx_p]
  have a11 : A2 263 11 = (A 263 9) := by rw [q2, lx_11, u11]
  rw [a10, a11]
  cases b with
  | false =>
    refine ⟨by omega, by omega, fun c => ?_, fun c => ?_⟩
    · have e : raL (A 269) (A 263 9) (A 264) = laS (A 269) (A 263 9) 13 (A 264) 0 0 (skB (A 269) (A 263 9) 0) := if_neg c
      have e2 : raN false (A 269) (A 263 9) (A 264) = (laS (A 269) (A 263 9) 13 (A 264) 0 0 (skB (A 269) (A 263 9) 0)).1 := by rw [← e]; exact if_neg (by decide)
      rw [e2] at hP
      rw [q2, lx_ry, u4, u16]
      refine ra_law (U := usM A) hp263 (by rw [u11]; exact p0) (by rw [u9]; exact p1) (by rw [u4]; exact (okW_n p2).1) 13 0 _ _ _ _ _ (by rw [u11]; exact bs.2) (Nat.zero_le _) (fun k _ => by rw [u4]) rfl (by decide) (fun B hB => ?_)
      rw [u9, u11] at hB ⊢
      exact hP B ⟨fun z => (by cases z), fun _ => by rw [e]; exact hB⟩
    · have e : raL (A 269) (A 263 9) (A 264) = (0, (A 264), 0, (skB (A 269) (A 263 9) 0), (skB (A 269) (A 263 9) 0)) := if_pos c
      have e2 : raN false (A 269) (A 263 9) (A 264) = 0 := by
        show (if false = true then _ else (raL (A 269) (A 263 9) (A 264)).1) = 0
        rw [e]; rfl
      rw [e2] at hP
      refine hP A2 ⟨fun z => (by cases z), fun _ => ?_⟩
      rw [e]
      refine ⟨fun _ => ⟨usM A 263 13, ?_⟩, fun z => (by cases z)⟩
      rw [q2, lx_ry, u4, u16]
  | true =>
    refine ⟨by omega, by omega, fun c => ?_, fun c => ?_⟩
    · have e : raB (A 269) (A 263 9) (A 264) = baS (A 269) (A 263 9) 15 (A 264) 0 (skB (A 269) (A 263 9) 0) := if_neg c
      have e2 : raN true (A 269) (A 263 9) (A 264) = (baS (A 269) (A 263 9) 15 (A 264) 0 (skB (A 269) (A 263 9) 0)).1 := by rw [← e]; exact if_pos rfl
      rw [e2] at hP
      rw [q2, ← lx_rm, u4]
      refine ra_bench (U := usM A) hp263 (by rw [u11]; exact p0) (by rw [u9]; exact p1) u16 15 0 _ _ _ (by rw [u11]; exact bs.2) p2 rfl (by decide) ?_
      rw [u9, u11]
      exact hP _ ⟨fun _ => by rw [e], fun z => (by cases z)⟩
    · have e : raB (A 269) (A 263 9) (A 264) = (0, (A 264), (skB (A 269) (A 263 9) 0), (skB (A 269) (A 263 9) 0)) := if_pos c
      have e2 : raN true (A 269) (A 263 9) (A 264) = 0 := by
        show (if true = true then (raB (A 269) (A 263 9) (A 264)).1 else _) = 0
        rw [e]; rfl
      rw [e2] at hP
      refine hP A2 ⟨fun _ => ?_, fun z => (by cases z)⟩
      rw [e]
      show A2 = rm (usM A) (A 264) (skB (A 269) (A 263 9) 0) (skB (A 269) (A 263 9) 0)
      rw [q2, ← lx_rm, u4]
theorem r_readAll {X : gv_X} {d : Nat} {G : gv_Sh} {A : Nat → Nat → Nat} {j : Nat → Nat → Int64} {cc : gv_Rs} {b : Bool} (hp263 : oX12 G 263) (p0 : A 263 9 ≤ 400) (p1 : ∀ i, i < 400 → A 269 i < 4294967296) (p2 : okW (A 264)) : ∃ A1 : Nat → Nat → Nat, Ev X (d + 29) gvm_243 0 (gv_enter [.ref 263, .int (zo b)] 3) [] (G, (mI A, j), cc) (.inl (some (.int (nI (raN b (A 269) (A 263 9) (A 264))))), (G, (mI A1, j), cc)) ∧ (raP b A A1) := by
  obtain ⟨_, h, A1, rfl, hp⟩ := r_readAll_p (X := X) (d := d) (G := G) (A := A) (j := j) (cc := cc) (b := b) (P := fun r => ∃ A1 : Nat → Nat → Nat, r = (.inl (some (.int (nI (raN b (A 269) (A 263 9) (A 264))))), (G, (mI A1, j), cc)) ∧ (raP b A A1)) hp263 p0 p1 p2 (fun A1 h => ⟨A1, rfl, h⟩)
  exact ⟨A1, h, hp⟩
