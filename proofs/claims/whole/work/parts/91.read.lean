/-! all lines -/
def baS (t : Nat → Nat) (E : Nat) : Nat → (Nat → Nat) → Nat → Nat → Nat × (Nat → Nat) × Nat × Nat
  | 0, R, _, i => (4294967295, R, i, i)
  | f + 1, R, n, i => if (bnS t E R n i).1 = true then (if skB t E (bnS t E R n i).2.2.1 = E then (n + 1, (bnS t E R n i).2.1, skB t E (bnS t E R n i).2.2.1, skB t E (bnS t E R n i).2.2.1) else if t (skB t E (bnS t E R n i).2.2.1) = 59 then baS t E f (bnS t E R n i).2.1 (n + 1) (skB t E (bnS t E R n i).2.2.1 + 1) else (4294967295, (bnS t E R n i).2.1, skB t E (bnS t E R n i).2.2.1, skB t E (bnS t E R n i).2.2.1)) else (4294967295, (bnS t E R n i).2)
def laS (t : Nat → Nat) (E : Nat) : Nat → (Nat → Nat) → Nat → Nat → Nat → Nat × (Nat → Nat) × Nat × Nat × Nat
  | 0, R, _, c, i => (4294967295, R, c, i, i)
  | f + 1, R, n, c, i => if (lnS t E n i).1 = true then (if skB t E (lnS t E n i).2.2.2.1 = E then (n + 1, llR R n (lnS t E n i).2.1.1 (lnS t E n i).2.1.2 c (lnS t E n i).2.2.1, c + (lnS t E n i).2.2.1.length, skB t E (lnS t E n i).2.2.2.1, skB t E (lnS t E n i).2.2.2.1) else if t (skB t E (lnS t E n i).2.2.2.1) = 59 then laS t E f (llR R n (lnS t E n i).2.1.1 (lnS t E n i).2.1.2 c (lnS t E n i).2.2.1) (n + 1) (c + (lnS t E n i).2.2.1.length) (skB t E (lnS t E n i).2.2.2.1 + 1) else (4294967295, R, c, 0, skB t E (lnS t E n i).2.2.2.1)) else (4294967295, R, c, 0, (lnS t E n i).2.2.2.2)
def laP (U B : Nat → Nat → Nat) (r : Nat × (Nat → Nat) × Nat × Nat × Nat) : Prop := (r.1 ≠ 4294967295 → ∃ d, B = ry U r.2.1 r.2.2.2.1 r.2.2.2.2 r.2.2.1 d) ∧ (r.1 = 4294967295 → B 263 12 = r.2.2.2.2 ∧ lwF U B)
theorem llR_o {R : Nat → Nat} {n kd v c i : Nat} {cs : List (Nat × Nat)} (h : i < 1217) : llR R n kd v c cs i = R i := by
  unfold llR
  rw [seR_ne (by omega), emL_o _ _ _ _ (by omega), seR_ne (by omega), seR_ne (by omega), seR_ne (by omega)]
theorem w243 {X : gv_X} {d : Nat} {G : gv_Sh} {A : Nat → Nat → Nat} {j : Nat → Nat → Int64} {cc : gv_Rs} {P : gv_O × gv_S → Prop} {b : Bool} (hp263 : oX12 G 263) (H : (∀ A1 : Nat → Nat → Nat, A1 = (gu (gu (gu (gu A 263 0 0) 263 11 (A 263 9)) 263 9 0) 263 10 0) → ((gu A1 263 16 0) 263 11 ≤ 400) ∧ (((gu A1 263 16 0) 263 10 ≤ (gu A1 263 16 0) 263 11) ∧ ((∀ i, i < 400 → A1 269 i < 4294967296) ∧ ((∀ A2 : Nat → Nat → Nat, A2 = (lx (gu A1 263 16 0) (skB (A1 269) ((gu A1 263 16 0) 263 11) ((gu A1 263 16 0) 263 10)) (skB (A1 269) ((gu A1 263 16 0) 263 11) ((gu A1 263 16 0) 263 10))) → ((A2 263 10) < 4294967296) ∧ (((A2 263 11) < 4294967296) ∧ (((¬ (A2 263 10) = (A2 263 11)) → EvP X (d + 29) gvm_243 28 [some (.ref 263), some (.int (zo b)), some (.int (nI 0))] [] (G, (mI A2, j), cc) P) ∧ (((A2 263 10) = (A2 263 11)) → P (.inl (some (.int (nI 0))), (G, (mI A2, j), cc))))))))))) : EvP X (d + 29) gvm_243 0 (gv_enter [.ref 263, .int (zo b)] 3) [] (G, (mI A, j), cc) P :=
  (pv_aload_n rfl rfl   (match (⟨(gu (gu (gu (gu A 263 0 0) 263 11 (A 263 9)) 263 9 0) 263 10 0), rfl⟩ : ∃ Z : Nat → Nat → Nat, Z = (gu (gu (gu (gu A 263 0 0) 263 11 (A 263 9)) 263 9 0) 263 10 0)) with | ⟨A1, q1⟩ => pv_virt rfl rfl rfl rfl rfl (oX12_k hp263) rfl rfl rfl (ev_eqM q1 (r_uses (A := A) hp263 )) (pv_aload_n rfl rfl   (pn_iconst rfl rfl   (pn_putI rfl rfl (oX12_k hp263)   (pv_aload_n rfl rfl   (match (⟨(lx (gu A1 263 16 0) (skB (A1 269) ((gu A1 263 16 0) 263 11) ((gu A1 263 16 0) 263 10)) (skB (A1 269) ((gu A1 263 16 0) 263 11) ((gu A1 263 16 0) 263 10))), rfl⟩ : ∃ Z : Nat → Nat → Nat, Z = (lx (gu A1 263 16 0) (skB (A1 269) ((gu A1 263 16 0) 263 11) ((gu A1 263 16 0) 263 10)) (skB (A1 269) ((gu A1 263 16 0) 263 11) ((gu A1 263 16 0) 263 10)))) with | ⟨A2, q2⟩ => pv_virt rfl rfl rfl rfl rfl (oX12_k hp263) rfl rfl rfl (ev_eqM q2 (r_blanks (A := (gu A1 263 16 0)) hp263 (H A1 q1).1 (H A1 q1).2.1 (H A1 q1).2.2.1 )) (pv_aload_n rfl rfl   (pn_getI rfl rfl (oX12_k hp263) rfl   (pv_aload_n rfl rfl   (pn_getI rfl rfl (oX12_k hp263) rfl   (pn_ic_ne rfl ((H A1 q1).2.2.2 A2 q2).1 ((H A1 q1).2.2.2 A2 q2).2.1 (fun c3 => (pn_iconst rfl rfl   (pv_istore_n rfl rfl   (((H A1 q1).2.2.2 A2 q2).2.2.1 c3)))) (fun c3 => (pn_iconst rfl rfl   (pv_ireti rfl rfl (((H A1 q1).2.2.2 A2 q2).2.2.2 c3))))))))))))))))
theorem w243_28 {X : gv_X} {d : Nat} {G : gv_Sh} {A : Nat → Nat → Nat} {j : Nat → Nat → Int64} {cc : gv_Rs} {P : gv_O × gv_S → Prop} {b : Bool} {l2 : Nat} (hp263 : oX12 G 263) (H : (A 263 11 ≤ 400) ∧ ((A 263 10 ≤ A 263 11) ∧ ((∀ i, i < 400 → A 269 i < 4294967296) ∧ ((A 264 0 ≤ 8) ∧ ((A 263 16 ≤ A 263 10) ∧ ((l2 ≤ 400) ∧ ((∀ A1v1 : Nat → Nat → Nat, ((lnP b A A1v1 l2)) → (((lnB b (A 269) (A 263 11) (A 264) l2 (A 263 10)) = true) → (A1v1 263 11 ≤ 400) ∧ ((A1v1 263 10 ≤ A1v1 263 11) ∧ ((∀ i, i < 400 → A1v1 269 i < 4294967296) ∧ ((∀ A3 : Nat → Nat → Nat, A3 = (lx A1v1 (skB (A1v1 269) (A1v1 263 11) (A1v1 263 10)) (skB (A1v1 269) (A1v1 263 11) (A1v1 263 10))) → ((A3 263 10) < 4294967296) ∧ (((A3 263 11) < 4294967296) ∧ (((¬ (A3 263 10) = (A3 263 11)) → (A3 263 11 ≤ 400) ∧ ((A3 263 10 ≤ A3 263 11) ∧ ((∀ i, i < 400 → A3 269 i < 4294967296) ∧ (((A3 263 10 < A3 263 11 ∧ 59 ≤ A3 269 (A3 263 10) ∧ A3 269 (A3 263 10) ≤ 59) → EvP X (d + 29) gvm_243 28 [some (.ref 263), some (.int (zo b)), some (.int (nI (l2 + 1)))] [] (G, (mI (gu A3 263 10 ((A3 263 10) + 1)), j), cc) P) ∧ ((¬ (A3 263 10 < A3 263 11 ∧ 59 ≤ A3 269 (A3 263 10) ∧ A3 269 (A3 263 10) ≤ 59)) → P (.inl (some (.int (nI 4294967295))), (G, (mI A3, j), cc))))))) ∧ (((A3 263 10) = (A3 263 11)) → P (.inl (some (.int (nI (l2 + 1)))), (G, (mI A3, j), cc)))))))))) ∧ (((lnB b (A 269) (A 263 11) (A 264) l2 (A 263 10)) = false) → P (.inl (some (.int (nI 4294967295))), (G, (mI A1v1, j), cc))))))))))) : EvP X (d + 29) gvm_243 28 [some (.ref 263), some (.int (zo b)), some (.int (nI l2))] [] (G, (mI A, j), cc) P :=
  (pv_aload_n rfl rfl   (pv_iload_n rfl rfl   (pv_iload_n rfl rfl   (match (r_readLine (b := b) (n := l2) (A := A) (X := X) (d := d + 0) (G := G) (j := j) (cc := cc) hp263 H.1 H.2.1 H.2.2.1 H.2.2.2.1 H.2.2.2.2.1 H.2.2.2.2.2.1 ) with | ⟨A1v1, e3x31, h1⟩ => pv_virt rfl rfl rfl rfl rfl (oX12_k hp263) rfl rfl rfl e3x31 (pv_if_ne_zo rfl  (fun c2 => (pv_aload_n rfl rfl   (match (⟨(lx A1v1 (skB (A1v1 269) (A1v1 263 11) (A1v1 263 10)) (skB (A1v1 269) (A1v1 263 11) (A1v1 263 10))), rfl⟩ : ∃ Z : Nat → Nat → Nat, Z = (lx A1v1 (skB (A1v1 269) (A1v1 263 11) (A1v1 263 10)) (skB (A1v1 269) (A1v1 263 11) (A1v1 263 10)))) with | ⟨A3, q3⟩ => pv_virt rfl rfl rfl rfl rfl (oX12_k hp263) rfl rfl rfl (ev_eqM q3 (r_blanks (A := A1v1) hp263 ((H.2.2.2.2.2.2 A1v1 h1).1 c2).1 ((H.2.2.2.2.2.2 A1v1 h1).1 c2).2.1 ((H.2.2.2.2.2.2 A1v1 h1).1 c2).2.2.1 )) (pv_aload_n rfl rfl   (pn_getI rfl rfl (oX12_k hp263) rfl   (pv_aload_n rfl rfl   (pn_getI rfl rfl (oX12_k hp263) rfl   (pn_ic_ne rfl (((H.2.2.2.2.2.2 A1v1 h1).1 c2).2.2.2 A3 q3).1 (((H.2.2.2.2.2.2 A1v1 h1).1 c2).2.2.2 A3 q3).2.1 (fun c4 => (pv_aload_n rfl rfl   (pn_bipush rfl rfl   (pn_bipush rfl rfl   (pv_virt rfl rfl rfl rfl rfl (oX12_k hp263) rfl rfl rfl (r_isAt (lo := 59) (hi := 59) (A := A3) hp263 ((((H.2.2.2.2.2.2 A1v1 h1).1 c2).2.2.2 A3 q3).2.2.1 c4).1 ((((H.2.2.2.2.2.2 A1v1 h1).1 c2).2.2.2 A3 q3).2.2.1 c4).2.1 ((((H.2.2.2.2.2.2 A1v1 h1).1 c2).2.2.2 A3 q3).2.2.1 c4).2.2.1 (by decide) (by decide) (by decide) ) (pv_if_ne_dc rfl  (fun c5 => (pv_aload_n rfl rfl   (pv_dup rfl rfl   (pn_getI rfl rfl (oX12_k hp263) rfl   (pn_iconst rfl rfl   (pn_iadd rfl   (pn_putI rfl rfl (oX12_k hp263)   (pn_iinc rfl rfl rfl rfl   (pv_goto rfl (((((H.2.2.2.2.2.2 A1v1 h1).1 c2).2.2.2 A3 q3).2.2.1 c4).2.2.2.1 c5)))))))))) (fun c5 => (pn_iconst (u := 4294967295) rfl (by decide)   (pv_ireti rfl rfl (((((H.2.2.2.2.2.2 A1v1 h1).1 c2).2.2.2 A3 q3).2.2.1 c4).2.2.2.2 c5)))))))))) (fun c4 => (pv_iload_n rfl rfl   (pn_iconst rfl rfl   (pn_iadd rfl   (pv_ireti rfl rfl ((((H.2.2.2.2.2.2 A1v1 h1).1 c2).2.2.2 A3 q3).2.2.2 c4)))))))))))))) (fun c2 => (pn_iconst (u := 4294967295) rfl (by decide)   (pv_ireti rfl rfl ((H.2.2.2.2.2.2 A1v1 h1).2 c2)))))))))
theorem ra_bench {X : gv_X} {d : Nat} {G : gv_Sh} {j : Nat → Nat → Int64} {cc : gv_Rs} {P : gv_O × gv_S → Prop} (hp263 : oX12 G 263) {U : Nat → Nat → Nat} (u1 : (U 263 11) ≤ 400) (u2 : ∀ i, i < 400 → U 269 i < 4294967296) (u16 : U 263 16 = 0) : ∀ f n i b' R, i ≤ (U 263 11) → okW R → n + f = 15 → n ≤ 14 → P (.inl (some (.int (nI (baS (U 269) (U 263 11) f R n i).1))), (G, (mI (rm U (baS (U 269) (U 263 11) f R n i).2.1 (baS (U 269) (U 263 11) f R n i).2.2.1 (baS (U 269) (U 263 11) f R n i).2.2.2), j), cc)) → EvP X (d + 29) gvm_243 28 [some (.ref 263), some (.int (zo true)), some (.int (nI n))] [] (G, (mI (rm U R i b'), j), cc) P := by
  intro f
  induction f with
  | zero => intro n i b' R hi hR hn hn2; omega
  | succ f ih =>
    intro n i b' R hi hR hn hn2 hP
    have hok := bnS_ok (t := (U 269)) (E := (U 263 11)) (n := n) hR hi
    obtain ⟨M, hM⟩ : ∃ M, M = rm U R i b' := ⟨_, rfl⟩
    have m10 : M 263 10 = i := by rw [hM, rm_p]
    have m11 : M 263 11 = (U 263 11) := by rw [hM, rm_11]
    have m9 : M 269 = (U 269) := by rw [hM, rm_9]
    have m4 : M 264 = R := by rw [hM, rm_4]
    have m16 : M 263 16 = 0 := by rw [hM, rm_k (by decide) (by decide), u16]
    rw [← hM]
    refine w243_28 hp263 ⟨by omega, by omega, by rw [m9]; exact u2, by rw [m4]; exact (okW_n hR).1, by omega, by omega, fun A1 h1 => ?_⟩
    have h2 := h1.1 rfl
    simp only [m4, m9, m10, m11] at h2 ⊢
    rw [hM, rm_rm] at h2
    have el : lnB true (U 269) (U 263 11) R n i = (bnS (U 269) (U 263 11) R n i).1 := if_pos rfl
    rw [el]
    have a10 : A1 263 10 = (bnS (U 269) (U 263 11) R n i).2.2.1 := by rw [h2, rm_p]
    have a11 : A1 263 11 = (U 263 11) := by rw [h2, rm_11]
    have a9 : A1 269 = (U 269) := by rw [h2, rm_9]
    refine ⟨fun c2 => ?_, fun c2 => ?_⟩
    · have ok := hok c2
      have bs := skB_b (t := (U 269)) (E := (U 263 11)) ok.2.1
      refine ⟨by omega, by omega, by rw [a9]; exact u2, fun A3 q3 => ?_⟩
      simp only [a9, a10, a11] at q3
      rw [h2, rm_lx] at q3
      have d10 : A3 263 10 = (skB (U 269) (U 263 11) (bnS (U 269) (U 263 11) R n i).2.2.1) := by rw [q3, rm_p]
      have d11 : A3 263 11 = (U 263 11) := by rw [q3, rm_11]
      have d9 : A3 269 = (U 269) := by rw [q3, rm_9]
      simp only [d9, d10, d11]
      refine ⟨by omega, by omega, fun c4 => ?_, fun c4 => ?_⟩
      · refine ⟨u1, bs.2, u2, fun c5 => ?_, fun c5 => ?_⟩
        · have e : (baS (U 269) (U 263 11) (f + 1) R n i) = baS (U 269) (U 263 11) f (bnS (U 269) (U 263 11) R n i).2.1 (n + 1) ((skB (U 269) (U 263 11) (bnS (U 269) (U 263 11) R n i).2.2.1) + 1) := by
            show (if (bnS (U 269) (U 263 11) R n i).1 = true then _ else _) = _
            rw [if_pos c2, if_neg c4, if_pos (by omega)]
          rw [e] at hP
          rw [q3, rm_10]
          exact ih (n + 1) _ _ _ (by omega) ok.1 (by omega) (by omega) hP
        · have e : (baS (U 269) (U 263 11) (f + 1) R n i) = (4294967295, (bnS (U 269) (U 263 11) R n i).2.1, (skB (U 269) (U 263 11) (bnS (U 269) (U 263 11) R n i).2.2.1), (skB (U 269) (U 263 11) (bnS (U 269) (U 263 11) R n i).2.2.1)) := by
            show (if (bnS (U 269) (U 263 11) R n i).1 = true then _ else _) = _
            rw [if_pos c2, if_neg c4, if_neg (by omega)]
          rw [e] at hP
          rw [q3]
          exact hP
      · have e : (baS (U 269) (U 263 11) (f + 1) R n i) = (n + 1, (bnS (U 269) (U 263 11) R n i).2.1, (skB (U 269) (U 263 11) (bnS (U 269) (U 263 11) R n i).2.2.1), (skB (U 269) (U 263 11) (bnS (U 269) (U 263 11) R n i).2.2.1)) := by
          show (if (bnS (U 269) (U 263 11) R n i).1 = true then _ else _) = _
          rw [if_pos c2, if_pos c4]
        rw [e] at hP
        rw [q3]
        exact hP
    · have e : (baS (U 269) (U 263 11) (f + 1) R n i) = (4294967295, (bnS (U 269) (U 263 11) R n i).2) := by
        show (if (bnS (U 269) (U 263 11) R n i).1 = true then _ else _) = _
        rw [if_neg (by rw [c2]; decide)]
      rw [e] at hP
      rw [h2]
      exact hP
theorem ra_law {X : gv_X} {d : Nat} {G : gv_Sh} {j : Nat → Nat → Int64} {cc : gv_Rs} {P : gv_O × gv_S → Prop} (hp263 : oX12 G 263) {U : Nat → Nat → Nat} (u1 : (U 263 11) ≤ 400) (u2 : ∀ i, i < 400 → U 269 i < 4294967296) (u8 : U 264 0 ≤ 8) : ∀ f n i b' R c d', i ≤ (U 263 11) → c ≤ i → (∀ k, k < 1217 → R k = U 264 k) → n + f = 13 → n ≤ 12 → (∀ B : Nat → Nat → Nat, laP U B (laS (U 269) (U 263 11) f R n c i) → P (.inl (some (.int (nI (laS (U 269) (U 263 11) f R n c i).1))), (G, (mI B, j), cc))) → EvP X (d + 29) gvm_243 28 [some (.ref 263), some (.int (zo false)), some (.int (nI n))] [] (G, (mI (ry U R i b' c d'), j), cc) P := by
  intro f
  induction f with
  | zero => intro n i b' R c d' hi hc hR hn hn2; omega
  | succ f ih =>
    intro n i b' R c d' hi hc hR hn hn2 hP
    have hok := lnS_b (t := (U 269)) (E := (U 263 11)) (n := n) hi
    obtain ⟨M, hM⟩ : ∃ M, M = ry U R i b' c d' := ⟨_, rfl⟩
    have m10 : M 263 10 = i := by rw [hM, ry_p]
    have m11 : M 263 11 = (U 263 11) := by rw [hM, ry_11]
    have m9 : M 269 = (U 269) := by rw [hM, ry_9]
    have m4 : M 264 = R := by rw [hM, ry_4]
    have m16 : M 263 16 = c := by rw [hM, ry_n]
    have wM : lwF U M := by rw [hM]; exact lwF_ry hR
    rw [← hM]
    refine w243_28 hp263 ⟨by omega, by omega, by rw [m9]; exact u2, by rw [m4, hR 0 (by decide)]; exact u8, by omega, by omega, fun A1 h1 => ?_⟩
    have h2 := h1.2 rfl
    simp only [m4, m9, m10, m11] at h2 ⊢
    have el : lnB false (U 269) (U 263 11) R n i = (lnS (U 269) (U 263 11) n i).1 := if_neg (by decide)
    rw [el]
    refine ⟨fun c2 => ?_, fun c2 => ?_⟩
    · have ok := hok c2
      have h3 := h2.1 c2
      rw [m4, m16, hM, ry_ry] at h3
      have a10 : A1 263 10 = (lnS (U 269) (U 263 11) n i).2.2.2.1 := by rw [h3, ry_p]
      have a11 : A1 263 11 = (U 263 11) := by rw [h3, ry_11]
      have a9 : A1 269 = (U 269) := by rw [h3, ry_9]
      have bs := skB_b (t := (U 269)) (E := (U 263 11)) ok.2.1
      have hR1 : ∀ k, k < 1217 → (llR R n (lnS (U 269) (U 263 11) n i).2.1.1 (lnS (U 269) (U 263 11) n i).2.1.2 c (lnS (U 269) (U 263 11) n i).2.2.1) k = U 264 k := fun k hk => (llR_o hk).trans (hR k hk)
      refine ⟨by omega, by omega, by rw [a9]; exact u2, fun A3 q3 => ?_⟩
      simp only [a9, a10, a11] at q3
      rw [h3, ry_lx] at q3
      have d10 : A3 263 10 = (skB (U 269) (U 263 11) (lnS (U 269) (U 263 11) n i).2.2.2.1) := by rw [q3, ry_p]
      have d11 : A3 263 11 = (U 263 11) := by rw [q3, ry_11]
      have d9 : A3 269 = (U 269) := by rw [q3, ry_9]
      simp only [d9, d10, d11]
      refine ⟨by omega, by omega, fun c4 => ?_, fun c4 => ?_⟩
      · refine ⟨u1, bs.2, u2, fun c5 => ?_, fun c5 => ?_⟩
        · have e : (laS (U 269) (U 263 11) (f + 1) R n c i) = laS (U 269) (U 263 11) f (llR R n (lnS (U 269) (U 263 11) n i).2.1.1 (lnS (U 269) (U 263 11) n i).2.1.2 c (lnS (U 269) (U 263 11) n i).2.2.1) (n + 1) (c + (lnS (U 269) (U 263 11) n i).2.2.1.length) ((skB (U 269) (U 263 11) (lnS (U 269) (U 263 11) n i).2.2.2.1) + 1) := by
            show (if (lnS (U 269) (U 263 11) n i).1 = true then _ else _) = _
            rw [if_pos c2, if_neg c4, if_pos (by omega)]
          rw [e] at hP
          rw [q3, ry_10]
          exact ih (n + 1) _ _ _ _ _ (by omega) (by omega) hR1 (by omega) (by omega) hP
        · have e : (laS (U 269) (U 263 11) (f + 1) R n c i) = (4294967295, R, c, 0, (skB (U 269) (U 263 11) (lnS (U 269) (U 263 11) n i).2.2.2.1)) := by
            show (if (lnS (U 269) (U 263 11) n i).1 = true then _ else _) = _
            rw [if_pos c2, if_neg c4, if_neg (by omega)]
          rw [e] at hP
          refine hP A3 ⟨fun z => absurd rfl z, fun _ => ?_⟩
          rw [q3]
          exact ⟨ry_b _ _ _ _ _ _, lwF_ry hR1⟩
      · have e : (laS (U 269) (U 263 11) (f + 1) R n c i) = (n + 1, (llR R n (lnS (U 269) (U 263 11) n i).2.1.1 (lnS (U 269) (U 263 11) n i).2.1.2 c (lnS (U 269) (U 263 11) n i).2.2.1), (c + (lnS (U 269) (U 263 11) n i).2.2.1.length), (skB (U 269) (U 263 11) (lnS (U 269) (U 263 11) n i).2.2.2.1), (skB (U 269) (U 263 11) (lnS (U 269) (U 263 11) n i).2.2.2.1)) := by
          show (if (lnS (U 269) (U 263 11) n i).1 = true then _ else _) = _
          rw [if_pos c2, if_pos c4]
        rw [e] at hP
        exact hP A3 ⟨fun _ => ⟨0, q3⟩, fun z => absurd (show n + 1 = 4294967295 from z) (by omega)⟩
    · have e : (laS (U 269) (U 263 11) (f + 1) R n c i) = (4294967295, R, c, 0, (lnS (U 269) (U 263 11) n i).2.2.2.2) := by
        show (if (lnS (U 269) (U 263 11) n i).1 = true then _ else _) = _
        rw [if_neg (by rw [c2]; decide)]
      have h3 := h2.2 c2
      rw [e] at hP
      exact hP A1 ⟨fun z => absurd rfl z, fun _ => ⟨h3.1, lwF_tr wM h3.2⟩⟩
