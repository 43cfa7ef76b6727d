/-! a line -/
def bnS (t : Nat → Nat) (E : Nat) (R : Nat → Nat) (n i : Nat) : PR := if n < 14 then blS t E R (ltE t E (skB t E i)) (skB t E i) else (false, R, ltE t E (skB t E i), skB t E i)
def lnS (t : Nat → Nat) (E n i : Nat) : LlS := if n < 12 then llS t E (skB t E i) (ltE t E (skB t E i)) else (false, (0, 0), [], 0, skB t E i)
def lnB (b : Bool) (t : Nat → Nat) (E : Nat) (R : Nat → Nat) (n i : Nat) : Bool := if b = true then (bnS t E R n i).1 else (lnS t E n i).1
def lnP (b : Bool) (A B : Nat → Nat → Nat) (n : Nat) : Prop := (b = true → B = rm A (bnS (A 269) (A 263 11) (A 264) n (A 263 10)).2.1 (bnS (A 269) (A 263 11) (A 264) n (A 263 10)).2.2.1 (bnS (A 269) (A 263 11) (A 264) n (A 263 10)).2.2.2) ∧ (b = false → llP A B n (lnS (A 269) (A 263 11) n (A 263 10)))
theorem rm_lxa (A : Nat → Nat → Nat) (R : Nat → Nat) (p b p' b' : Nat) : rm (lx A p b) R p' b' = rm A R p' b' := by
  unfold rm
  rw [lx_lx]
theorem lx_rm (A : Nat → Nat → Nat) (p b : Nat) : rm A (A 264) p b = lx A p b := by
  have h := rm_id (lx A p b)
  rw [lx_p, lx_b, lx_q (by decide), rm_lxa] at h
  exact h
theorem llP_lx {A B : Nat → Nat → Nat} {p b n : Nat} {r : LlS} (h : llP (lx A p b) B n r) : llP A B n r := by
  rw [lx_ry] at h
  refine ⟨fun z => ?_, fun z => ?_⟩
  · have q := h.1 z
    simp only [ry_4, ry_n, ry_ry] at q
    exact q
  · have q := h.2 z
    exact ⟨q.1, lwF_tr (lwF_ry (fun _ _ => rfl)) q.2⟩
theorem w242 {X : gv_X} {d : Nat} {G : gv_Sh} {A : Nat → Nat → Nat} {j : Nat → Nat → Int64} {cc : gv_Rs} {P : gv_O × gv_S → Prop} {b : Bool} {n : Nat} (hp263 : oX12 G 263) (H : (A 263 11 ≤ 400) ∧ ((A 263 10 ≤ A 263 11) ∧ ((∀ i, i < 400 → A 269 i < 4294967296) ∧ ((∀ A1 : Nat → Nat → Nat, A1 = (lx A (ltE (A 269) (A 263 11) (skB (A 269) (A 263 11) (A 263 10))) (skB (A 269) (A 263 11) (A 263 10))) → ((b = false) → (n < 2147483648) ∧ (((12 ≤ n) → P (.inl (some (.int (nI 0))), (G, (mI A1, j), cc))) ∧ ((n < 12) → (A1 263 11 ≤ 400) ∧ ((A1 263 10 ≤ A1 263 11) ∧ ((∀ i, i < 400 → A1 269 i < 4294967296) ∧ ((n < 12) ∧ ((A1 263 12 ≤ A1 263 10) ∧ ((A1 263 16 ≤ A1 263 10) ∧ ((∀ A1v2 : Nat → Nat → Nat, ((llP A1 A1v2 n (llS (A1 269) (A1 263 11) (A1 263 12) (A1 263 10)))) → (((llS (A1 269) (A1 263 11) (A1 263 12) (A1 263 10)).1 = false) → P (.inl (some (.int (nI 0))), (G, (mI A1v2, j), cc))) ∧ (((llS (A1 269) (A1 263 11) (A1 263 12) (A1 263 10)).1 = true) → P (.inl (some (.int (nI 1))), (G, (mI A1v2, j), cc))))))))))))) ∧ ((b = true) → (n < 2147483648) ∧ (((14 ≤ n) → P (.inl (some (.int (nI 0))), (G, (mI A1, j), cc))) ∧ ((n < 14) → (A1 263 11 ≤ 400) ∧ ((A1 263 10 ≤ A1 263 11) ∧ ((∀ i, i < 400 → A1 269 i < 4294967296) ∧ ((A1 264 0 ≤ 8) ∧ ((A1 263 12 ≤ A1 263 10) ∧ ((∀ A9 : Nat → Nat → Nat, A9 = (rm A1 (blS (A1 269) (A1 263 11) (A1 264) (A1 263 10) (A1 263 12)).2.1 (blS (A1 269) (A1 263 11) (A1 264) (A1 263 10) (A1 263 12)).2.2.1 (blS (A1 269) (A1 263 11) (A1 264) (A1 263 10) (A1 263 12)).2.2.2) → (((blS (A1 269) (A1 263 11) (A1 264) (A1 263 10) (A1 263 12)).1 = false) → P (.inl (some (.int (nI 0))), (G, (mI A9, j), cc))) ∧ (((blS (A1 269) (A1 263 11) (A1 264) (A1 263 10) (A1 263 12)).1 = true) → P (.inl (some (.int (nI 1))), (G, (mI A9, j), cc))))))))))))))))) : EvP X (d + 28) gvm_242 0 (gv_enter [.ref 263, .int (zo b), .int (nI n)] 3) [] (G, (mI A, j), cc) P :=
  (pv_aload_n rfl rfl   (match (⟨(lx A (ltE (A 269) (A 263 11) (skB (A 269) (A 263 11) (A 263 10))) (skB (A 269) (A 263 11) (A 263 10))), rfl⟩ : ∃ Z : Nat → Nat → Nat, Z = (lx A (ltE (A 269) (A 263 11) (skB (A 269) (A 263 11) (A 263 10))) (skB (A 269) (A 263 11) (A 263 10)))) with | ⟨A1, q1⟩ => pv_virt rfl rfl rfl rfl rfl (oX12_k hp263) rfl rfl rfl (ev_eqM q1 (r_letters (A := A) hp263 H.1 H.2.1 H.2.2.1 )) (pv_iload_n rfl rfl   (pv_iload_n rfl rfl   (pv_if_eq_zo rfl  (fun c2 => (pn_bipush rfl rfl   (pn_ic_ge rfl ((H.2.2.2 A1 q1).1 c2).1 (by decide) (fun c3 => (pn_iconst rfl rfl   (pv_iretz rfl rfl (Or.inl rfl) (((H.2.2.2 A1 q1).1 c2).2.1 c3)))) (fun c3 => (pv_iload_n rfl rfl   (pv_if_eq_zo rfl (fun _ => (pv_aload_n rfl rfl   (pv_iload_n rfl rfl   (match (r_readLawLine (n := n) (A := A1) (X := X) (d := d + 0) (G := G) (j := j) (cc := cc) hp263 (((H.2.2.2 A1 q1).1 c2).2.2 c3).1 (((H.2.2.2 A1 q1).1 c2).2.2 c3).2.1 (((H.2.2.2 A1 q1).1 c2).2.2 c3).2.2.1 (((H.2.2.2 A1 q1).1 c2).2.2 c3).2.2.2.1 (((H.2.2.2 A1 q1).1 c2).2.2 c3).2.2.2.2.1 (((H.2.2.2 A1 q1).1 c2).2.2 c3).2.2.2.2.2.1 ) with | ⟨A1v2, e2x35, h5⟩ => pv_virt rfl rfl rfl rfl rfl (oX12_k hp263) rfl rfl rfl e2x35 (pv_if_eq_zo rfl  (fun c6 => (pn_iconst rfl rfl   (pv_iretz rfl rfl (Or.inl rfl) (((((H.2.2.2 A1 q1).1 c2).2.2 c3).2.2.2.2.2.2 A1v2 h5).1 c6)))) (fun c6 => (pn_iconst rfl rfl   (pv_goto rfl (pv_iretz rfl rfl (Or.inr rfl) (((((H.2.2.2 A1 q1).1 c2).2.2 c3).2.2.2.2.2.2 A1v2 h5).2 c6)))))))))) (fun c4 => absurd (c4.symm.trans c2) (by decide)))))))) (fun c2 => (pn_bipush rfl rfl   (pv_goto rfl (pn_ic_ge rfl ((H.2.2.2 A1 q1).2 c2).1 (by decide) (fun c7 => (pn_iconst rfl rfl   (pv_iretz rfl rfl (Or.inl rfl) (((H.2.2.2 A1 q1).2 c2).2.1 c7)))) (fun c7 => (pv_iload_n rfl rfl   (pv_if_eq_zo rfl (fun c8 => absurd (c8.symm.trans c2) (by decide)) (fun _ => (pv_aload_n rfl rfl   (match (⟨(rm A1 (blS (A1 269) (A1 263 11) (A1 264) (A1 263 10) (A1 263 12)).2.1 (blS (A1 269) (A1 263 11) (A1 264) (A1 263 10) (A1 263 12)).2.2.1 (blS (A1 269) (A1 263 11) (A1 264) (A1 263 10) (A1 263 12)).2.2.2), rfl⟩ : ∃ Z : Nat → Nat → Nat, Z = (rm A1 (blS (A1 269) (A1 263 11) (A1 264) (A1 263 10) (A1 263 12)).2.1 (blS (A1 269) (A1 263 11) (A1 264) (A1 263 10) (A1 263 12)).2.2.1 (blS (A1 269) (A1 263 11) (A1 264) (A1 263 10) (A1 263 12)).2.2.2)) with | ⟨A9, q9⟩ => pv_virt rfl rfl rfl rfl rfl (oX12_k hp263) rfl rfl rfl (ev_eqM q9 (r_readBenchLine (A := A1) hp263 (((H.2.2.2 A1 q1).2 c2).2.2 c7).1 (((H.2.2.2 A1 q1).2 c2).2.2 c7).2.1 (((H.2.2.2 A1 q1).2 c2).2.2 c7).2.2.1 (((H.2.2.2 A1 q1).2 c2).2.2 c7).2.2.2.1 (((H.2.2.2 A1 q1).2 c2).2.2 c7).2.2.2.2.1 )) (pv_if_eq_zo rfl  (fun c10 => (pn_iconst rfl rfl   (pv_iretz rfl rfl (Or.inl rfl) (((((H.2.2.2 A1 q1).2 c2).2.2 c7).2.2.2.2.2 A9 q9).1 c10)))) (fun c10 => (pv_goto rfl (pn_iconst rfl rfl   (pv_goto rfl (pv_iretz rfl rfl (Or.inr rfl) (((((H.2.2.2 A1 q1).2 c2).2.2 c7).2.2.2.2.2 A9 q9).2 c10))))))))))))))))))))))
theorem r_readLine_p {X : gv_X} {d : Nat} {G : gv_Sh} {A : Nat → Nat → Nat} {j : Nat → Nat → Int64} {cc : gv_Rs} {P : gv_O × gv_S → Prop} {b : Bool} {n : Nat} (hp263 : oX12 G 263) (p0 : A 263 11 ≤ 400) (p1 : A 263 10 ≤ A 263 11) (p2 : ∀ i, i < 400 → A 269 i < 4294967296) (p3 : A 264 0 ≤ 8) (p4 : A 263 16 ≤ A 263 10) (p5 : n ≤ 400) (hP : ∀ A1 : Nat → Nat → Nat, (lnP b A A1 n) → P (.inl (some (.int (zo (lnB b (A 269) (A 263 11) (A 264) n (A 263 10))))), (G, (mI A1, j), cc))) : EvP X (d + 28) gvm_242 0 (gv_enter [.ref 263, .int (zo b), .int (nI n)] 3) [] (G, (mI A, j), cc) P := by
  have b1 := skB_b (t := (A 269)) (E := (A 263 11)) p1
  have b2 := ltE_b (t := (A 269)) (E := (A 263 11)) b1.2
  refine w242 hp263 ⟨p0, p1, p2, fun A1 q1 => ?_⟩
  have a10 : A1 263 10 = (ltE (A 269) (A 263 11) (skB (A 269) (A 263 11) (A 263 10))) := by rw [q1, lx_p]
  have a12 : A1 263 12 = (skB (A 269) (A 263 11) (A 263 10)) := by rw [q1, lx_b]
  have a11 : A1 263 11 = (A 263 11) := by rw [q1, lx_11]
  have a9 : A1 269 = (A 269) := by rw [q1, lx_9]
  have a16 : A1 263 16 = A 263 16 := by rw [q1, lx_k (by decide) (by decide)]
  have a4 : A1 264 = A 264 := by rw [q1, lx_q (by decide)]
  refine ⟨fun c2 => ?_, fun c2 => ?_⟩
  · subst c2
    refine ⟨by omega, fun c3 => ?_, fun c3 => ?_⟩
    · have e : lnS (A 269) (A 263 11) n (A 263 10) = (false, (0, 0), [], 0, (skB (A 269) (A 263 11) (A 263 10))) := if_neg (by omega)
      refine qz0 (hP A1 ⟨fun z => (by cases z), fun _ => ?_⟩) ?_
      · rw [e]
        refine ⟨fun z => (by cases z), fun _ => ⟨a12, ?_⟩⟩
        rw [q1, lx_ry]
        exact lwF_ry (fun _ _ => rfl)
      · unfold lnB
        rw [if_neg (by decide), e]
    · have e : lnS (A 269) (A 263 11) n (A 263 10) = llS (A 269) (A 263 11) (skB (A 269) (A 263 11) (A 263 10)) (ltE (A 269) (A 263 11) (skB (A 269) (A 263 11) (A 263 10))) := if_pos (by omega)
      have el : lnB false (A 269) (A 263 11) (A 264) n (A 263 10) = (llS (A 269) (A 263 11) (skB (A 269) (A 263 11) (A 263 10)) (ltE (A 269) (A 263 11) (skB (A 269) (A 263 11) (A 263 10)))).1 := by
        unfold lnB
        rw [if_neg (by decide), e]
      refine ⟨by omega, by omega, by rw [a9]; exact p2, by omega, by omega, by omega, fun A2 h5 => ?_⟩
      simp only [a9, a10, a11, a12] at h5 ⊢
      rw [q1] at h5
      have h6 := llP_lx h5
      rw [← e] at h6
      refine ⟨fun c6 => ?_, fun c6 => ?_⟩
      · exact qz0 (hP A2 ⟨fun z => (by cases z), fun _ => h6⟩) (el.trans c6)
      · exact qz1 (hP A2 ⟨fun z => (by cases z), fun _ => h6⟩) (el.trans c6)
  · subst c2
    refine ⟨by omega, fun c3 => ?_, fun c3 => ?_⟩
    · have e : bnS (A 269) (A 263 11) (A 264) n (A 263 10) = (false, A 264, (ltE (A 269) (A 263 11) (skB (A 269) (A 263 11) (A 263 10))), (skB (A 269) (A 263 11) (A 263 10))) := if_neg (by omega)
      refine qz0 (hP A1 ⟨fun _ => ?_, fun z => (by cases z)⟩) ?_
      · rw [e, lx_rm]
        exact q1
      · unfold lnB
        rw [if_pos rfl, e]
    · have e : bnS (A 269) (A 263 11) (A 264) n (A 263 10) = blS (A 269) (A 263 11) (A 264) (ltE (A 269) (A 263 11) (skB (A 269) (A 263 11) (A 263 10))) (skB (A 269) (A 263 11) (A 263 10)) := if_pos (by omega)
      have el : lnB true (A 269) (A 263 11) (A 264) n (A 263 10) = (blS (A 269) (A 263 11) (A 264) (ltE (A 269) (A 263 11) (skB (A 269) (A 263 11) (A 263 10))) (skB (A 269) (A 263 11) (A 263 10))).1 := by
        unfold lnB
        rw [if_pos rfl, e]
      refine ⟨by omega, by omega, by rw [a9]; exact p2, by rw [a4]; exact p3, by omega, fun A2 h5 => ?_⟩
      simp only [a9, a10, a11, a12, a4] at h5 ⊢
      rw [q1, rm_lxa, ← e] at h5
      refine ⟨fun c6 => ?_, fun c6 => ?_⟩
      · exact qz0 (hP A2 ⟨fun _ => h5, fun z => (by cases z)⟩) (el.trans c6)
      · exact qz1 (hP A2 ⟨fun _ => h5, fun z => (by cases z)⟩) (el.trans c6)
theorem r_readLine {X : gv_X} {d : Nat} {G : gv_Sh} {A : Nat → Nat → Nat} {j : Nat → Nat → Int64} {cc : gv_Rs} {b : Bool} {n : Nat} (hp263 : oX12 G 263) (p0 : A 263 11 ≤ 400) (p1 : A 263 10 ≤ A 263 11) (p2 : ∀ i, i < 400 → A 269 i < 4294967296) (p3 : A 264 0 ≤ 8) (p4 : A 263 16 ≤ A 263 10) (p5 : n ≤ 400) : ∃ A1 : Nat → Nat → Nat, Ev X (d + 28) gvm_242 0 (gv_enter [.ref 263, .int (zo b), .int (nI n)] 3) [] (G, (mI A, j), cc) (.inl (some (.int (zo (lnB b (A 269) (A 263 11) (A 264) n (A 263 10))))), (G, (mI A1, j), cc)) ∧ (lnP b A A1 n) := by
  obtain ⟨_, h, A1, rfl, hp⟩ := r_readLine_p (X := X) (d := d) (G := G) (A := A) (j := j) (cc := cc) (b := b) (n := n) (P := fun r => ∃ A1 : Nat → Nat → Nat, r = (.inl (some (.int (zo (lnB b (A 269) (A 263 11) (A 264) n (A 263 10))))), (G, (mI A1, j), cc)) ∧ (lnP b A A1 n)) hp263 p0 p1 p2 p3 p4 p5 (fun A1 h => ⟨A1, rfl, h⟩)
  exact ⟨A1, h, hp⟩
