/-! programs, cells, lines of the bench -/
theorem nmV_l {t : Nat → Nat} {E i n : Nat} (hi : i ≤ E) (hn : n ≤ 8) : nmV t E i ((n + 4294967296 - 1) % 4294967296) = 4294967295 ∨ nmV t E i ((n + 4294967296 - 1) % 4294967296) < n := by
  have := nmV_lt (t := t) (E := E) (i := i) (h := (n + 4294967296 - 1) % 4294967296) hi (by omega)
  omega
theorem w229 {X : gv_X} {d : Nat} {G : gv_Sh} {A : Nat → Nat → Nat} {j : Nat → Nat → Int64} {cc : gv_Rs} {P : gv_O × gv_S → Prop}  (hp263 : oX12 G 263) (H : EvP X (d + 3) gvm_229 4 [some (.ref 263), some (.int (nI 0)), some (.int (nI 1)), none] [] (G, (mI A, j), cc) P) : EvP X (d + 3) gvm_229 0 (gv_enter [.ref 263] 4) [] (G, (mI A, j), cc) P :=
  (pn_iconst rfl rfl   (pv_istore_n rfl rfl   (pn_iconst rfl rfl   (pv_istore_n rfl rfl   H))))
theorem w229_4 {X : gv_X} {d : Nat} {G : gv_Sh} {A : Nat → Nat → Nat} {j : Nat → Nat → Int64} {cc : gv_Rs} {P : gv_O × gv_S → Prop} {l1 : Nat} {l2 : Nat} {l3 : Option Value} (hp263 : oX12 G 263) (H : (l2 < 4294967296) ∧ (((l2 = 0) → ((nI l2) = 0 ∨ (nI l2) = 1) ∧ P (.inl (some (.int (nI l2))), (G, (mI (gu A 264 3 l1), j), cc))) ∧ ((¬ l2 = 0) → (A 263 11 ≤ 400) ∧ ((A 263 10 ≤ A 263 11) ∧ ((∀ i, i < 400 → A 269 i < 4294967296) ∧ ((∀ A2 : Nat → Nat → Nat, A2 = (lx A (skB (A 269) (A 263 11) (A 263 10)) (skB (A 269) (A 263 11) (A 263 10))) → (((nnB (A 269) (A 263 11) (A 263 10)) = false) → ((nI l2) = 0 ∨ (nI l2) = 1) ∧ P (.inl (some (.int (nI l2))), (G, (mI (gu A2 264 3 l1), j), cc))) ∧ (((nnB (A 269) (A 263 11) (A 263 10)) = true) → (A2 263 11 ≤ 400) ∧ ((A2 263 10 ≤ A2 263 11) ∧ ((∀ i, i < 400 → A2 269 i < 4294967296) ∧ ((0 = 0) ∧ (((((A2 264 0) + 4294967296 - 1) % 4294967296) ≤ 1000 ∨ (((A2 264 0) + 4294967296 - 1) % 4294967296) = 4294967295) ∧ ((∀ A4 : Nat → Nat → Nat, A4 = (lx A2 (nmE (A2 269) (A2 263 11) (A2 263 10)) (skB (A2 269) (A2 263 11) (A2 263 10))) → ((nmV (A2 269) (A2 263 11) (A2 263 10) (((A2 264 0) + 4294967296 - 1) % 4294967296)) < 4294967296) ∧ (((2147483648 ≤ (nmV (A2 269) (A2 263 11) (A2 263 10) (((A2 264 0) + 4294967296 - 1) % 4294967296))) → EvP X (d + 3) gvm_229 4 [some (.ref 263), some (.int (nI (l1 + 1))), some (.int (nI 0)), some (.int (nI (nmV (A2 269) (A2 263 11) (A2 263 10) (((A2 264 0) + 4294967296 - 1) % 4294967296))))] [] (G, (mI A4, j), cc) P) ∧ (((nmV (A2 269) (A2 263 11) (A2 263 10) (((A2 264 0) + 4294967296 - 1) % 4294967296)) < 2147483648) → (l1 < 2147483648) ∧ (((10 ≤ l1) → EvP X (d + 3) gvm_229 4 [some (.ref 263), some (.int (nI (l1 + 1))), some (.int (nI 0)), some (.int (nI (nmV (A2 269) (A2 263 11) (A2 263 10) (((A2 264 0) + 4294967296 - 1) % 4294967296))))] [] (G, (mI A4, j), cc) P) ∧ ((l1 < 10) → ((12 + l1) < 2066) ∧ (EvP X (d + 3) gvm_229 4 [some (.ref 263), some (.int (nI (l1 + 1))), some (.int (nI 1)), some (.int (nI (nmV (A2 269) (A2 263 11) (A2 263 10) (((A2 264 0) + 4294967296 - 1) % 4294967296))))] [] (G, (mI (gu A4 264 (12 + l1) (nmV (A2 269) (A2 263 11) (A2 263 10) (((A2 264 0) + 4294967296 - 1) % 4294967296))), j), cc) P))))))))))))))))))) : EvP X (d + 3) gvm_229 4 [some (.ref 263), some (.int (nI l1)), some (.int (nI l2)), l3] [] (G, (mI A, j), cc) P :=
  (pv_iload_n rfl rfl   (pn_if_eq rfl H.1 (fun c1 => (pv_aload_n rfl rfl   (pv_getP rfl rfl (oX12_k hp263) (oX12_1 hp263)   (pn_iconst rfl rfl   (pv_iload_n rfl rfl   (pn_iast rfl (oX12_1c hp263) (by decide) (by decide)  (pv_iload_n rfl rfl   (pv_iretz rfl rfl (H.2.1 c1).1 (H.2.1 c1).2)))))))) (fun c1 => (pv_aload_n rfl rfl   (match (⟨(lx A (skB (A 269) (A 263 11) (A 263 10)) (skB (A 269) (A 263 11) (A 263 10))), rfl⟩ : ∃ Z : Nat → Nat → Nat, Z = (lx A (skB (A 269) (A 263 11) (A 263 10)) (skB (A 269) (A 263 11) (A 263 10)))) with | ⟨A2, q2⟩ => pv_virt rfl rfl rfl rfl rfl (oX12_k hp263) rfl rfl rfl (ev_eqM q2 (r_isNumberNext (A := A) hp263 (H.2.2 c1).1 (H.2.2 c1).2.1 (H.2.2 c1).2.2.1 )) (pv_if_eq_zo rfl  (fun c3 => (pv_aload_n rfl rfl   (pv_getP rfl rfl (oX12_k hp263) (oX12_1 hp263)   (pn_iconst rfl rfl   (pv_iload_n rfl rfl   (pn_iast rfl (oX12_1c hp263) (by decide) (by decide)  (pv_iload_n rfl rfl   (pv_iretz rfl rfl (((H.2.2 c1).2.2.2 A2 q2).1 c3).1 (((H.2.2 c1).2.2.2 A2 q2).1 c3).2)))))))) (fun c3 => (pv_aload_n rfl rfl   (pn_iconst rfl rfl   (pv_aload_n rfl rfl   (pv_virt rfl rfl rfl rfl rfl (oX12_k hp263) rfl rfl rfl (r_ops (A := A2) hp263 ) (pn_iconst rfl rfl   (pn_isubw rfl (by decide)  (match (⟨(lx A2 (nmE (A2 269) (A2 263 11) (A2 263 10)) (skB (A2 269) (A2 263 11) (A2 263 10))), rfl⟩ : ∃ Z : Nat → Nat → Nat, Z = (lx A2 (nmE (A2 269) (A2 263 11) (A2 263 10)) (skB (A2 269) (A2 263 11) (A2 263 10)))) with | ⟨A4, q4⟩ => pv_virt rfl rfl rfl rfl rfl (oX12_k hp263) rfl rfl rfl (ev_eqM q4 (r_number (low := 0) (high := (((A2 264 0) + 4294967296 - 1) % 4294967296)) (A := A2) hp263 (((H.2.2 c1).2.2.2 A2 q2).2 c3).1 (((H.2.2 c1).2.2.2 A2 q2).2 c3).2.1 (((H.2.2 c1).2.2.2 A2 q2).2 c3).2.2.1 (((H.2.2 c1).2.2.2 A2 q2).2 c3).2.2.2.1 (((H.2.2 c1).2.2.2 A2 q2).2 c3).2.2.2.2.1 )) (pv_istore_n rfl rfl   (pv_iload_n rfl rfl   (pn_if_lt rfl ((((H.2.2 c1).2.2.2 A2 q2).2 c3).2.2.2.2.2 A4 q4).1 (fun c5 => (pn_iconst rfl rfl   (pv_istore_n rfl rfl   (pv_iload_n rfl rfl   (pn_if_eq rfl (by decide) (fun _ => (pn_iinc rfl rfl rfl rfl   (pv_goto rfl (((((H.2.2 c1).2.2.2 A2 q2).2 c3).2.2.2.2.2 A4 q4).2.1 c5)))) (fun e => absurd e (by decide))))))) (fun c5 => (pv_iload_n rfl rfl   (pn_bipush rfl rfl   (pn_ic_ge rfl (((((H.2.2 c1).2.2.2 A2 q2).2 c3).2.2.2.2.2 A4 q4).2.2 c5).1 (by decide) (fun c7 => (pn_iconst rfl rfl   (pv_istore_n rfl rfl   (pv_iload_n rfl rfl   (pn_if_eq rfl (by decide) (fun _ => (pn_iinc rfl rfl rfl rfl   (pv_goto rfl ((((((H.2.2 c1).2.2.2 A2 q2).2 c3).2.2.2.2.2 A4 q4).2.2 c5).2.1 c7)))) (fun e => absurd e (by decide))))))) (fun c7 => (pn_iconst rfl rfl   (pv_goto rfl (pv_istore_n rfl rfl   (pv_iload_n rfl rfl   (pn_if_eq rfl (by decide) (fun e => absurd e (by decide)) (fun _ => (pv_aload_n rfl rfl   (pv_getP rfl rfl (oX12_k hp263) (oX12_1 hp263)   (pn_bipush rfl rfl   (pv_iload_n rfl rfl   (pn_iadd rfl   (pv_iload_n rfl rfl   (pn_iast rfl (oX12_1c hp263) (by decide) ((((((H.2.2 c1).2.2.2 A2 q2).2 c3).2.2.2.2.2 A4 q4).2.2 c5).2.2 c7).1  (pn_iinc rfl rfl rfl rfl   (pv_goto rfl ((((((H.2.2 c1).2.2.2 A2 q2).2 c3).2.2.2.2.2 A4 q4).2.2 c5).2.2 c7).2)))))))))))))))))))))))))))))))))))))
theorem r_readProgram_p {X : gv_X} {d : Nat} {G : gv_Sh} {A : Nat → Nat → Nat} {j : Nat → Nat → Int64} {cc : gv_Rs} {P : gv_O × gv_S → Prop}  (hp263 : oX12 G 263) (p0 : A 263 11 ≤ 400) (p1 : A 263 10 ≤ A 263 11) (p2 : ∀ i, i < 400 → A 269 i < 4294967296) (p3 : A 264 0 ≤ 8) (hP : P (.inl (some (.int (zo (pgS (A 269) (A 263 11) 12 (A 264) 0 (A 263 10)).1))), (G, (mI (rm A (pgS (A 269) (A 263 11) 12 (A 264) 0 (A 263 10)).2.1 (pgS (A 269) (A 263 11) 12 (A 264) 0 (A 263 10)).2.2.1 (pgS (A 269) (A 263 11) 12 (A 264) 0 (A 263 10)).2.2.2), j), cc))) : EvP X (d + 3) gvm_229 0 (gv_enter [.ref 263] 4) [] (G, (mI A, j), cc) P := by
  obtain ⟨r, hr⟩ : ∃ r : PR, (pgS (A 269) (A 263 11) 12 (A 264) 0 (A 263 10)) = r := ⟨_, rfl⟩
  rw [hr] at hP
  have F : ∀ R n i b l3, (false, seR R 3 n, i, b) = r → EvP X (d + 3) gvm_229 4 [some (.ref 263), some (.int (nI n)), some (.int (nI 0)), l3] [] (G, (mI (rm A R i b), j), cc) P := by
    intro R n i b l3 hs
    rw [← hs] at hP
    refine w229_4 hp263 ⟨by decide, fun c1 => ⟨Or.inl rfl, ?_⟩, fun c1 => absurd rfl c1⟩
    rw [rm_gu]
    exact qz0 hP rfl
  have L : ∀ f R n i b l3, f + n = 12 → n ≤ 10 → i ≤ (A 263 11) → R 0 = A 264 0 → pgS (A 269) (A 263 11) f R n i = r → EvP X (d + 3) gvm_229 4 [some (.ref 263), some (.int (nI n)), some (.int (nI 1)), l3] [] (G, (mI (rm A R i b), j), cc) P := by
    intro f
    induction f with
    | zero => intro R n i b l3 hf hn hi h0 hs; omega
    | succ f ih =>
      intro R n i b l3 hf hn hi h0 hs
      have b1 := skB_b (t := (A 269)) (E := (A 263 11)) hi
      have b2 := nmE_b (t := (A 269)) (E := (A 263 11)) hi
      have hv := nmV_l (t := (A 269)) (E := (A 263 11)) (i := i) (n := R 0) hi (by omega)
      have hni := nm_i (t := (A 269)) (E := (A 263 11)) (i := i) (h := ((R 0 + 4294967296 - 1) % 4294967296)) hi
      unfold pgS at hs
      obtain ⟨M, hM⟩ : ∃ M, M = rm A R i b := ⟨_, rfl⟩
      have m4 : M 264 = R := by rw [hM, rm_4]
      have m40 : M 264 0 = R 0 := by rw [m4]
      have m10 : M 263 10 = i := by rw [hM, rm_p]
      have m12 : M 263 12 = b := by rw [hM, rm_b]
      have m11 : M 263 11 = (A 263 11) := by rw [hM, rm_11]
      have m9 : M 269 = (A 269) := by rw [hM, rm_9]
      rw [← hM]
      refine w229_4 hp263 ⟨by decide, fun c1 => absurd c1 (by decide), fun c1 => ⟨by rw [m11]; omega, by rw [m10, m11]; omega, by rw [m9]; exact p2, fun A2 q2 => ?_⟩⟩
      rw [m9, m11, m10] at q2 ⊢
      rw [hM, rm_lx] at q2
      have a4 : A2 264 = R := by rw [q2, rm_4]
      have a40 : A2 264 0 = R 0 := by rw [a4]
      have a10 : A2 263 10 = skB (A 269) (A 263 11) i := by rw [q2, rm_p]
      have a11 : A2 263 11 = (A 263 11) := by rw [q2, rm_11]
      have a9 : A2 269 = (A 269) := by rw [q2, rm_9]
      refine ⟨fun c3 => ⟨Or.inr rfl, ?_⟩, fun c3 => ⟨by rw [a11]; omega, by rw [a10, a11]; omega, by rw [a9]; exact p2, rfl, by rw [a4]; omega, fun A4 q4 => ?_⟩⟩
      · rw [if_neg (by rw [c3]; decide)] at hs
        rw [← hs] at hP
        rw [q2, rm_gu]
        exact qz1 hP rfl
      · rw [if_pos c3] at hs
        rw [a9, a11, a10, a4, hni.1] at *
        rw [hni.2, skB_i hi, q2, rm_lx] at q4
        refine ⟨by omega, fun c5 => ?_, fun c5 => ⟨by omega, fun c7 => ?_, fun c7 => ⟨by omega, ?_⟩⟩⟩
        · rw [if_pos (Or.inl (by omega))] at hs
          rw [q4]
          exact F R (n + 1) _ _ _ hs
        · rw [if_pos (Or.inr (by omega))] at hs
          rw [q4]
          exact F R (n + 1) _ _ _ hs
        · rw [if_neg (by omega)] at hs
          rw [q4, rm_gu]
          exact ih _ (n + 1) _ _ _ (by omega) (by omega) b2.2 (by rw [seR_ne (by omega)]; exact h0) hs
  have := L 12 (A 264) 0 (A 263 10) (A 263 12) none (by omega) (by omega) p1 rfl hr
  rw [rm_id] at this
  exact w229 hp263 this
theorem r_readProgram {X : gv_X} {d : Nat} {G : gv_Sh} {A : Nat → Nat → Nat} {j : Nat → Nat → Int64} {cc : gv_Rs}  (hp263 : oX12 G 263) (p0 : A 263 11 ≤ 400) (p1 : A 263 10 ≤ A 263 11) (p2 : ∀ i, i < 400 → A 269 i < 4294967296) (p3 : A 264 0 ≤ 8) : Ev X (d + 3) gvm_229 0 (gv_enter [.ref 263] 4) [] (G, (mI A, j), cc) (.inl (some (.int (zo (pgS (A 269) (A 263 11) 12 (A 264) 0 (A 263 10)).1))), (G, (mI (rm A (pgS (A 269) (A 263 11) 12 (A 264) 0 (A 263 10)).2.1 (pgS (A 269) (A 263 11) 12 (A 264) 0 (A 263 10)).2.2.1 (pgS (A 269) (A 263 11) 12 (A 264) 0 (A 263 10)).2.2.2), j), cc)) := evp_det (r_readProgram_p hp263 p0 p1 p2 p3 rfl)
