/-! parts, sums, tags of the law: (whether right, codes, point, begin) -/
abbrev LwS : Type := Bool × List (Nat × Nat) × Nat × Nat
def lwF (A B : Nat → Nat → Nat) : Prop := (∀ q, q ≠ 263 → q ≠ 264 → B q = A q) ∧ (∀ k, k ≠ 10 → k ≠ 12 → k ≠ 13 → k ≠ 16 → B 263 k = A 263 k) ∧ ∀ i, i < 1217 → B 264 i = A 264 i
theorem lwF_tr {A B C : Nat → Nat → Nat} (h : lwF A B) (h2 : lwF B C) : lwF A C := ⟨fun q a b => (h2.1 q a b).trans (h.1 q a b), fun k a b c d => (h2.2.1 k a b c d).trans (h.2.1 k a b c d), fun i hi => (h2.2.2 i hi).trans (h.2.2 i hi)⟩
theorem lwF_ry {A : Nat → Nat → Nat} {R : Nat → Nat} {p b n d : Nat} (h : ∀ i, i < 1217 → R i = A 264 i) : lwF A (ry A R p b n d) := ⟨fun q a b => ry_q a b, fun k a b c e => by rw [ry_f, if_neg a, if_neg b, if_neg e, if_neg c], fun i hi => by rw [ry_4]; exact h i hi⟩
/-- what comes of a reading -/
def lwP (A B : Nat → Nat → Nat) (r : LwS) : Prop := (r.1 = true → B = ry A (emL (A 264) (A 263 16) r.2.1) r.2.2.1 r.2.2.2 (A 263 16 + r.2.1.length) (A 263 13)) ∧ (r.1 = false → B 263 12 = r.2.2.2 ∧ lwF A B)
theorem emits_m (A : Nat → Nat → Nat) (c v : Nat) : gu (gu (gu A 264 (1266 + (2 * (A 263 16))) c) 264 ((1266 + (2 * (A 263 16))) + 1) v) 263 16 ((A 263 16) + 1) = ry A (emC (A 264) (A 263 16) c v) (A 263 10) (A 263 12) (A 263 16 + 1) (A 263 13) := by
  have h := ry_gu A (A 264) (A 263 10) (A 263 12) (A 263 16) (A 263 13) (1266 + (2 * (A 263 16))) c
  rw [ry_id] at h
  rw [h, ry_gu, ry_16]
  rfl
theorem lx_ry (A : Nat → Nat → Nat) (p b : Nat) : lx A p b = ry A (A 264) p b (A 263 16) (A 263 13) := by
  have h := ry_lx A (A 264) (A 263 10) (A 263 12) (A 263 16) (A 263 13) p b
  rw [ry_id] at h
  exact h
theorem ry_ry (A : Nat → Nat → Nat) (R S : Nat → Nat) (p b n d p' b' n' d' : Nat) : ry (ry A R p b n d) S p' b' n' d' = ry A S p' b' n' d' := by
  have hf : (fun k => if k = 10 then p' else if k = 12 then b' else if k = 16 then n' else if k = 13 then d' else ry A R p b n d 263 k) = (fun k => if k = 10 then p' else if k = 12 then b' else if k = 16 then n' else if k = 13 then d' else A 263 k) := by
    funext k
    by_cases h1 : k = 10
    · rw [if_pos h1, if_pos h1]
    · rw [if_neg h1, if_neg h1]
      by_cases h2 : k = 12
      · rw [if_pos h2, if_pos h2]
      · rw [if_neg h2, if_neg h2]
        by_cases h5 : k = 16
        · rw [if_pos h5, if_pos h5]
        · rw [if_neg h5, if_neg h5]
          by_cases h6 : k = 13
          · rw [if_pos h6, if_pos h6]
          · rw [if_neg h6, if_neg h6, ry_f, if_neg h1, if_neg h2, if_neg h5, if_neg h6]
  show gw (gw (ry A R p b n d) 263 (fun k => if k = 10 then p' else if k = 12 then b' else if k = 16 then n' else if k = 13 then d' else ry A R p b n d 263 k)) 264 S = _
  rw [hf]
  unfold ry lz
  rw [gw_sw, gw_gw, gw_gw]
/-- one reading behind another -/
theorem lwP_2 {A B C : Nat → Nat → Nat} {r s : LwS} (h1 : B = ry A (emL (A 264) (A 263 16) r.2.1) r.2.2.1 r.2.2.2 (A 263 16 + r.2.1.length) (A 263 13)) (h2 : lwP B C s) : lwP A C (s.1, r.2.1 ++ s.2.1, s.2.2) := by
  have n16 : B 263 16 = A 263 16 + r.2.1.length := by rw [h1, ry_n]
  have n13 : B 263 13 = A 263 13 := by rw [h1, ry_d]
  have n4 : B 264 = emL (A 264) (A 263 16) r.2.1 := by rw [h1, ry_4]
  refine ⟨fun e => ?_, fun e => ?_⟩
  · rw [h2.1 e, n16, n13, n4, h1, ry_ry, emL_app, List.length_append, Nat.add_assoc]
  · obtain ⟨a, b⟩ := h2.2 e
    refine ⟨a, lwF_tr ?_ b⟩
    rw [h1]
    exact lwF_ry (fun i hi => emL_o _ _ _ i (by omega))
def ptS (t : Nat → Nat) (E i : Nat) : LwS := if ltE t E (skB t E i) = skB t E i then (!decide (nmV t E i 999 = 4294967295), [(10, nmV t E i 999)], nmE t E i, skB t E i) else (!decide (wpR t (skB t E i) (ltE t E (skB t E i)) = 4294967295), [(wpR t (skB t E i) (ltE t E (skB t E i)), 0)], ltE t E (skB t E i), skB t E i)
theorem ptS_b {t : Nat → Nat} {E i : Nat} (hi : i ≤ E) (h : (ptS t E i).1 = true) : i + (ptS t E i).2.1.length ≤ (ptS t E i).2.2.1 ∧ (ptS t E i).2.2.1 ≤ E := by
  have b1 := skB_b (t := t) hi
  have b2 := ltE_b (t := t) b1.2
  have b3 := nmE_b (t := t) hi
  unfold ptS at h ⊢
  split
  · rename_i e
    rw [if_pos e] at h
    refine ⟨?_, b3.2⟩
    have hv : ¬ nmV t E i 999 = 4294967295 := of_decide_eq_false (by simpa using h)
    show i + 1 ≤ nmE t E i
    have : ¬ nmE t E i = skB t E i := fun e2 => hv (by unfold nmV; exact if_pos (Or.inl e2))
    omega
  · rename_i e
    refine ⟨?_, b2.2⟩
    show i + 1 ≤ ltE t E (skB t E i)
    omega
theorem r_emits_p {X : gv_X} {d : Nat} {G : gv_Sh} {A : Nat → Nat → Nat} {j : Nat → Nat → Int64} {cc : gv_Rs} {P : gv_O × gv_S → Prop} {code : Nat} {n : Nat} (hp263 : oX12 G 263) (p0 : A 263 16 ≤ 399) (hP : P (.inl none, (G, (mI (ry A (emC (A 264) (A 263 16) code n) (A 263 10) (A 263 12) (A 263 16 + 1) (A 263 13)), j), cc))) : EvP X (d + 0) gvm_233 0 (gv_enter [.ref 263, .int (nI code), .int (nI n)] 3) [] (G, (mI A, j), cc) P := by
  refine w233 hp263  ⟨by omega, ⟨by omega, ?_⟩⟩
  exact qm hP (emits_m A code n).symm
theorem r_emits {X : gv_X} {d : Nat} {G : gv_Sh} {A : Nat → Nat → Nat} {j : Nat → Nat → Int64} {cc : gv_Rs} {code : Nat} {n : Nat} (hp263 : oX12 G 263) (p0 : A 263 16 ≤ 399) : Ev X (d + 0) gvm_233 0 (gv_enter [.ref 263, .int (nI code), .int (nI n)] 3) [] (G, (mI A, j), cc) (.inl none, (G, (mI (ry A (emC (A 264) (A 263 16) code n) (A 263 10) (A 263 12) (A 263 16 + 1) (A 263 13)), j), cc)) := evp_det (r_emits_p hp263 p0 rfl)
theorem w235 {X : gv_X} {d : Nat} {G : gv_Sh} {A : Nat → Nat → Nat} {j : Nat → Nat → Int64} {cc : gv_Rs} {P : gv_O × gv_S → Prop}  (hp263 : oX12 G 263) (H : (A 263 11 ≤ 400) ∧ ((A 263 10 ≤ A 263 11) ∧ ((∀ i, i < 400 → A 269 i < 4294967296) ∧ ((∀ A1 : Nat → Nat → Nat, A1 = (lx A (ltE (A 269) (A 263 11) (skB (A 269) (A 263 11) (A 263 10))) (skB (A 269) (A 263 11) (A 263 10))) → ((A1 263 10) < 4294967296) ∧ (((A1 263 12) < 4294967296) ∧ (((¬ (A1 263 10) = (A1 263 12)) → (A1 263 12 ≤ A1 263 10 ∧ A1 263 10 ≤ 400) ∧ ((∀ i, i < 400 → A1 269 i < 4294967296) ∧ ((A1 263 16 ≤ 399) ∧ ((∀ A6 : Nat → Nat → Nat, A6 = (ry A1 (emC (A1 264) (A1 263 16) (wpR (A1 269) (A1 263 12) (A1 263 10)) 0) (A1 263 10) (A1 263 12) (A1 263 16 + 1) (A1 263 13)) → ((wpR (A1 269) (A1 263 12) (A1 263 10)) < 4294967296) ∧ (((2147483648 ≤ (wpR (A1 269) (A1 263 12) (A1 263 10))) → P (.inl (some (.int (nI 0))), (G, (mI A6, j), cc))) ∧ (((wpR (A1 269) (A1 263 12) (A1 263 10)) < 2147483648) → P (.inl (some (.int (nI 1))), (G, (mI A6, j), cc))))))))) ∧ (((A1 263 10) = (A1 263 12)) → (A1 263 11 ≤ 400) ∧ ((A1 263 10 ≤ A1 263 11) ∧ ((∀ i, i < 400 → A1 269 i < 4294967296) ∧ ((0 = 0) ∧ ((999 ≤ 1000 ∨ 999 = 4294967295) ∧ ((∀ A9 : Nat → Nat → Nat, A9 = (lx A1 (nmE (A1 269) (A1 263 11) (A1 263 10)) (skB (A1 269) (A1 263 11) (A1 263 10))) → (A9 263 16 ≤ 399) ∧ ((∀ A12 : Nat → Nat → Nat, A12 = (ry A9 (emC (A9 264) (A9 263 16) 10 (nmV (A1 269) (A1 263 11) (A1 263 10) 999)) (A9 263 10) (A9 263 12) (A9 263 16 + 1) (A9 263 13)) → ((nmV (A1 269) (A1 263 11) (A1 263 10) 999) < 4294967296) ∧ (((2147483648 ≤ (nmV (A1 269) (A1 263 11) (A1 263 10) 999)) → P (.inl (some (.int (nI 0))), (G, (mI A12, j), cc))) ∧ (((nmV (A1 269) (A1 263 11) (A1 263 10) 999) < 2147483648) → P (.inl (some (.int (nI 1))), (G, (mI A12, j), cc)))))))))))))))))))) : EvP X (d + 3) gvm_235 0 (gv_enter [.ref 263] 3) [] (G, (mI A, j), cc) P :=
  (pv_aload_n rfl rfl   (match (⟨(lx A (ltE (A 269) (A 263 11) (skB (A 269) (A 263 11) (A 263 10))) (skB (A 269) (A 263 11) (A 263 10))), rfl⟩ : ∃ Z : Nat → Nat → Nat, Z = (lx A (ltE (A 269) (A 263 11) (skB (A 269) (A 263 11) (A 263 10))) (skB (A 269) (A 263 11) (A 263 10)))) with | ⟨A1, q1⟩ => pv_virt rfl rfl rfl rfl rfl (oX12_k hp263) rfl rfl rfl (ev_eqM q1 (r_letters (A := A) hp263 H.1 H.2.1 H.2.2.1 )) (pv_aload_n rfl rfl   (pn_getI rfl rfl (oX12_k hp263) rfl   (pv_aload_n rfl rfl   (pn_getI rfl rfl (oX12_k hp263) rfl   (pn_ic_ne rfl (H.2.2.2 A1 q1).1 (H.2.2.2 A1 q1).2.1 (fun c2 => (pn_iconst rfl rfl   (pv_istore_n rfl rfl   (pv_iload_n rfl rfl   (pn_if_eq rfl (by decide) (fun _ => (pv_aload_n rfl rfl   (pv_virt rfl rfl rfl rfl rfl (oX12_k hp263) rfl rfl rfl (r_wordOfPart (A := A1) hp263 ((H.2.2.2 A1 q1).2.2.1 c2).1 ((H.2.2.2 A1 q1).2.2.1 c2).2.1 ) (pv_istore_n rfl rfl   (pv_aload_n rfl rfl   (pv_iload_n rfl rfl   (pn_if_eq rfl (by decide) (fun _ => (pv_iload_n rfl rfl   (pv_iload_n rfl rfl   (pn_if_eq rfl (by decide) (fun _ => (pn_iconst rfl rfl   (match (⟨(ry A1 (emC (A1 264) (A1 263 16) (wpR (A1 269) (A1 263 12) (A1 263 10)) 0) (A1 263 10) (A1 263 12) (A1 263 16 + 1) (A1 263 13)), rfl⟩ : ∃ Z : Nat → Nat → Nat, Z = (ry A1 (emC (A1 264) (A1 263 16) (wpR (A1 269) (A1 263 12) (A1 263 10)) 0) (A1 263 10) (A1 263 12) (A1 263 16 + 1) (A1 263 13))) with | ⟨A6, q6⟩ => pv_virt rfl rfl rfl rfl rfl (oX12_k hp263) rfl rfl rfl (ev_eqM q6 (r_emits (code := (wpR (A1 269) (A1 263 12) (A1 263 10))) (n := 0) (A := A1) hp263 ((H.2.2.2 A1 q1).2.2.1 c2).2.2.1 )) (pv_iload_n rfl rfl   (pn_if_lt rfl (((H.2.2.2 A1 q1).2.2.1 c2).2.2.2 A6 q6).1 (fun c7 => (pn_iconst rfl rfl   (pv_iretz rfl rfl (Or.inl rfl) ((((H.2.2.2 A1 q1).2.2.1 c2).2.2.2 A6 q6).2.1 c7)))) (fun c7 => (pn_iconst rfl rfl   (pv_goto rfl (pv_iretz rfl rfl (Or.inr rfl) ((((H.2.2.2 A1 q1).2.2.1 c2).2.2.2 A6 q6).2.2 c7)))))))))) (fun e => absurd e (by decide)))))) (fun e => absurd e (by decide))))))))) (fun e => absurd e (by decide))))))) (fun c2 => (pn_iconst rfl rfl   (pv_goto rfl (pv_istore_n rfl rfl   (pv_iload_n rfl rfl   (pn_if_eq rfl (by decide) (fun e => absurd e (by decide)) (fun _ => (pv_aload_n rfl rfl   (pn_iconst rfl rfl   (pn_sipush rfl rfl   (match (⟨(lx A1 (nmE (A1 269) (A1 263 11) (A1 263 10)) (skB (A1 269) (A1 263 11) (A1 263 10))), rfl⟩ : ∃ Z : Nat → Nat → Nat, Z = (lx A1 (nmE (A1 269) (A1 263 11) (A1 263 10)) (skB (A1 269) (A1 263 11) (A1 263 10)))) with | ⟨A9, q9⟩ => pv_virt rfl rfl rfl rfl rfl (oX12_k hp263) rfl rfl rfl (ev_eqM q9 (r_number (low := 0) (high := 999) (A := A1) hp263 ((H.2.2.2 A1 q1).2.2.2 c2).1 ((H.2.2.2 A1 q1).2.2.2 c2).2.1 ((H.2.2.2 A1 q1).2.2.2 c2).2.2.1 ((H.2.2.2 A1 q1).2.2.2 c2).2.2.2.1 ((H.2.2.2 A1 q1).2.2.2 c2).2.2.2.2.1 )) (pv_goto rfl (pv_istore_n rfl rfl   (pv_aload_n rfl rfl   (pv_iload_n rfl rfl   (pn_if_eq rfl (by decide) (fun e => absurd e (by decide)) (fun _ => (pn_bipush rfl rfl   (pv_goto rfl (pv_iload_n rfl rfl   (pn_if_eq rfl (by decide) (fun e => absurd e (by decide)) (fun _ => (pv_iload_n rfl rfl   (pv_goto rfl (match (⟨(ry A9 (emC (A9 264) (A9 263 16) 10 (nmV (A1 269) (A1 263 11) (A1 263 10) 999)) (A9 263 10) (A9 263 12) (A9 263 16 + 1) (A9 263 13)), rfl⟩ : ∃ Z : Nat → Nat → Nat, Z = (ry A9 (emC (A9 264) (A9 263 16) 10 (nmV (A1 269) (A1 263 11) (A1 263 10) 999)) (A9 263 10) (A9 263 12) (A9 263 16 + 1) (A9 263 13))) with | ⟨A12, q12⟩ => pv_virt rfl rfl rfl rfl rfl (oX12_k hp263) rfl rfl rfl (ev_eqM q12 (r_emits (code := 10) (n := (nmV (A1 269) (A1 263 11) (A1 263 10) 999)) (A := A9) hp263 (((H.2.2.2 A1 q1).2.2.2 c2).2.2.2.2.2 A9 q9).1 )) (pv_iload_n rfl rfl   (pn_if_lt rfl ((((H.2.2.2 A1 q1).2.2.2 c2).2.2.2.2.2 A9 q9).2 A12 q12).1 (fun c13 => (pn_iconst rfl rfl   (pv_iretz rfl rfl (Or.inl rfl) (((((H.2.2.2 A1 q1).2.2.2 c2).2.2.2.2.2 A9 q9).2 A12 q12).2.1 c13)))) (fun c13 => (pn_iconst rfl rfl   (pv_goto rfl (pv_iretz rfl rfl (Or.inr rfl) (((((H.2.2.2 A1 q1).2.2.2 c2).2.2.2.2.2 A9 q9).2 A12 q12).2.2 c13)))))))))))))))))))))))))))))))))))))))
theorem r_readPart_p {X : gv_X} {d : Nat} {G : gv_Sh} {A : Nat → Nat → Nat} {j : Nat → Nat → Int64} {cc : gv_Rs} {P : gv_O × gv_S → Prop}  (hp263 : oX12 G 263) (p0 : A 263 11 ≤ 400) (p1 : A 263 10 ≤ A 263 11) (p2 : ∀ i, i < 400 → A 269 i < 4294967296) (p3 : A 263 16 + 1 ≤ A 263 10) (hP : ∀ A1 : Nat → Nat → Nat, (lwP A A1 (ptS (A 269) (A 263 11) (A 263 10))) → P (.inl (some (.int (zo (ptS (A 269) (A 263 11) (A 263 10)).1))), (G, (mI A1, j), cc))) : EvP X (d + 3) gvm_235 0 (gv_enter [.ref 263] 3) [] (G, (mI A, j), cc) P := by
  have b1 := skB_b (t := (A 269)) (E := (A 263 11)) p1
  have b2 := ltE_b (t := (A 269)) (E := (A 263 11)) b1.2
  have b3 := nmE_b (t := (A 269)) (E := (A 263 11)) p1
  have hv := nmV_lt (t := (A 269)) (E := (A 263 11)) (i := (A 263 10)) (h := 999) p1 (by omega)
  have hw := wpR_le (A 269) (skB (A 269) (A 263 11) (A 263 10)) (ltE (A 269) (A 263 11) (skB (A 269) (A 263 11) (A 263 10)))
  have hni := nm_i (t := (A 269)) (E := (A 263 11)) (i := (A 263 10)) (h := 999) p1
  refine w235 hp263 ⟨p0, p1, p2, fun A1 q1 => ?_⟩
  rw [lx_ry] at q1
  have a10 : A1 263 10 = ltE (A 269) (A 263 11) (skB (A 269) (A 263 11) (A 263 10)) := by rw [q1, ry_p]
  have a12 : A1 263 12 = skB (A 269) (A 263 11) (A 263 10) := by rw [q1, ry_b]
  have a11 : A1 263 11 = (A 263 11) := by rw [q1, ry_11]
  have a16 : A1 263 16 = A 263 16 := by rw [q1, ry_n]
  have a13 : A1 263 13 = A 263 13 := by rw [q1, ry_d]
  have a9 : A1 269 = (A 269) := by rw [q1, ry_9]
  have a4 : A1 264 = A 264 := by rw [q1, ry_4]
  have FR : ∀ c v p b, lwF A (ry A (emC (A 264) (A 263 16) c v) p b (A 263 16 + 1) (A 263 13)) := fun c v p b => lwF_ry (fun i hi => by unfold emC; rw [seR_ne (by omega), seR_ne (by omega)])
  rw [a10, a12]
  refine ⟨by omega, by omega, fun c2 => ⟨by omega, by rw [a9]; exact p2, by omega, fun A6 q6 => ?_⟩, fun c2 => ⟨by omega, by omega, by rw [a9]; exact p2, rfl, by omega, fun A9 q9 => ⟨?_, fun A12 q12 => ?_⟩⟩⟩
  · simp only [a9, a10, a11, a12, a13, a16, a4] at q6
    rw [q1, ry_ry] at q6
    rw [a9]
    have es : (ptS (A 269) (A 263 11) (A 263 10)) = (!decide (wpR (A 269) (skB (A 269) (A 263 11) (A 263 10)) (ltE (A 269) (A 263 11) (skB (A 269) (A 263 11) (A 263 10))) = 4294967295), [(wpR (A 269) (skB (A 269) (A 263 11) (A 263 10)) (ltE (A 269) (A 263 11) (skB (A 269) (A 263 11) (A 263 10))), 0)], ltE (A 269) (A 263 11) (skB (A 269) (A 263 11) (A 263 10)), skB (A 269) (A 263 11) (A 263 10)) := if_neg c2
    rw [es] at hP
    refine ⟨by omega, fun c7 => ?_, fun c7 => ?_⟩
    · refine qz0 (hP A6 ⟨fun e => ?_, fun e => ?_⟩) ?_
      · exact absurd (of_decide_eq_false (by simpa using e)) (by omega)
      · rw [q6, ry_b]
        exact ⟨rfl, FR _ _ _ _⟩
      · show (!decide _) = false
        rw [decide_eq_true (by omega)]
        rfl
    · refine qz1 (hP A6 ⟨fun e => q6, fun e => ?_⟩) ?_
      · exact absurd (of_decide_eq_true (by simpa using e)) (by omega)
      · show (!decide _) = true
        rw [decide_eq_false (by omega)]
        rfl
  · rw [lx_ry] at q9
    simp only [a9, a10, a11, a12, a13, a16, a4, c2, hni.2, skB_i p1] at q9
    rw [q1, ry_ry] at q9
    rw [q9, ry_n]
    omega
  · rw [lx_ry] at q9
    simp only [a9, a10, a11, a12, a13, a16, a4, c2, hni.2, skB_i p1] at q9
    rw [q1, ry_ry] at q9
    simp only [a9, a10, a11, c2, hni.1] at q12 ⊢
    rw [q9, ry_4, ry_p, ry_b, ry_n, ry_d, ry_ry] at q12
    have es : (ptS (A 269) (A 263 11) (A 263 10)) = (!decide (nmV (A 269) (A 263 11) (A 263 10) 999 = 4294967295), [(10, nmV (A 269) (A 263 11) (A 263 10) 999)], nmE (A 269) (A 263 11) (A 263 10), skB (A 269) (A 263 11) (A 263 10)) := if_pos c2
    rw [es] at hP
    refine ⟨by omega, fun c7 => ?_, fun c7 => ?_⟩
    · refine qz0 (hP A12 ⟨fun e => ?_, fun e => ?_⟩) ?_
      · exact absurd (of_decide_eq_false (by simpa using e)) (by omega)
      · rw [q12, ry_b]
        exact ⟨rfl, FR _ _ _ _⟩
      · show (!decide _) = false
        rw [decide_eq_true (by omega)]
        rfl
    · refine qz1 (hP A12 ⟨fun e => q12, fun e => ?_⟩) ?_
      · exact absurd (of_decide_eq_true (by simpa using e)) (by omega)
      · show (!decide _) = true
        rw [decide_eq_false (by omega)]
        rfl
theorem r_readPart {X : gv_X} {d : Nat} {G : gv_Sh} {A : Nat → Nat → Nat} {j : Nat → Nat → Int64} {cc : gv_Rs}  (hp263 : oX12 G 263) (p0 : A 263 11 ≤ 400) (p1 : A 263 10 ≤ A 263 11) (p2 : ∀ i, i < 400 → A 269 i < 4294967296) (p3 : A 263 16 + 1 ≤ A 263 10) : ∃ A1 : Nat → Nat → Nat, Ev X (d + 3) gvm_235 0 (gv_enter [.ref 263] 3) [] (G, (mI A, j), cc) (.inl (some (.int (zo (ptS (A 269) (A 263 11) (A 263 10)).1))), (G, (mI A1, j), cc)) ∧ (lwP A A1 (ptS (A 269) (A 263 11) (A 263 10))) := by
  obtain ⟨_, h, A1, rfl, hp⟩ := r_readPart_p (X := X) (d := d) (G := G) (A := A) (j := j) (cc := cc)  (P := fun r => ∃ A1 : Nat → Nat → Nat, r = (.inl (some (.int (zo (ptS (A 269) (A 263 11) (A 263 10)).1))), (G, (mI A1, j), cc)) ∧ (lwP A A1 (ptS (A 269) (A 263 11) (A 263 10)))) hp263 p0 p1 p2 p3 (fun A1 h => ⟨A1, rfl, h⟩)
  exact ⟨A1, h, hp⟩
