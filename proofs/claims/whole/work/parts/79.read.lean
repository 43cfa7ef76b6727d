/-! ops, programs, cells -/
def zpN (R : Nat → Nat) (p k : Nat) : Nat → Nat := fun i => if 30 + 9 * p ≤ i ∧ i < 30 + 9 * p + k then 0 else R i
theorem zpN_0 (R : Nat → Nat) (p : Nat) : zpN R p 0 = R := by funext i; unfold zpN; rw [if_neg (by omega)]
theorem zpN_s (R : Nat → Nat) (p k : Nat) : seR (zpN R p k) (30 + 9 * p + k) 0 = zpN R p (k + 1) := by
  funext i
  unfold seR zpN
  by_cases h : i = 30 + 9 * p + k
  · rw [if_pos h, if_pos (by omega)]
  · rw [if_neg h]
    by_cases h2 : 30 + 9 * p ≤ i ∧ i < 30 + 9 * p + k
    · rw [if_pos h2, if_pos (by omega)]
    · rw [if_neg h2, if_neg (by omega)]
def opS (t : Nat → Nat) (E : Nat) (R : Nat → Nat) (i b : Nat) : PR := if R 0 = 8 then (false, R, i, b) else
  if (msS t E (R 0) (seR (zpN R (R 0) 9) (30 + 9 * R 0 + 1) (psB t E i 2).toNat) (psE t E i 2)).1 = true then (true, seR (msS t E (R 0) (seR (zpN R (R 0) 9) (30 + 9 * R 0 + 1) (psB t E i 2).toNat) (psE t E i 2)).2.1 0 ((msS t E (R 0) (seR (zpN R (R 0) 9) (30 + 9 * R 0 + 1) (psB t E i 2).toNat) (psE t E i 2)).2.1 0 + 1), (msS t E (R 0) (seR (zpN R (R 0) 9) (30 + 9 * R 0 + 1) (psB t E i 2).toNat) (psE t E i 2)).2.2)
  else msS t E (R 0) (seR (zpN R (R 0) 9) (30 + 9 * R 0 + 1) (psB t E i 2).toNat) (psE t E i 2)
theorem psE_b {t : Nat → Nat} {E i q : Nat} (h : i ≤ E) : skB t E i ≤ psE t E i q ∧ psE t E i q ≤ E := by
  have a := skB_b (t := t) h
  have b := ltE_b (t := t) a.2
  unfold psE
  split <;> omega
theorem nm_i {t : Nat → Nat} {E i h : Nat} (hi : i ≤ E) : nmV t E (skB t E i) h = nmV t E i h ∧ nmE t E (skB t E i) = nmE t E i := by
  unfold nmV nmE
  rw [skB_i hi]
  exact ⟨rfl, rfl⟩
def pgS (t : Nat → Nat) (E : Nat) : Nat → (Nat → Nat) → Nat → Nat → PR
  | 0, R, _, i => (false, R, i, i)
  | f + 1, R, n, i => if nnB t E i = true then (if nmV t E i ((R 0 + 4294967296 - 1) % 4294967296) = 4294967295 ∨ 10 ≤ n then (false, seR R 3 (n + 1), nmE t E i, skB t E i) else pgS t E f (seR R (12 + n) (nmV t E i ((R 0 + 4294967296 - 1) % 4294967296))) (n + 1) (nmE t E i)) else (true, seR R 3 n, skB t E i, skB t E i)
def ceS (t : Nat → Nat) (E : Nat) : Nat → (Nat → Nat) → Nat → Nat → PR
  | 0, R, _, i => (false, R, i, i)
  | f + 1, R, n, i => if nmV t E i 3 = 4294967295 ∨ 8 ≤ n then (false, R, nmE t E i, skB t E i) else if nnB t E (nmE t E i) = true then ceS t E f (seR R (22 + n) (nmV t E i 3)) (n + 1) (skB t E (nmE t E i)) else (true, seR R (22 + n) (nmV t E i 3), skB t E (nmE t E i), skB t E (nmE t E i))
def shS (t : Nat → Nat) (E : Nat) (R : Nat → Nat) (i : Nat) : PR := (!decide (nmV t E i 3 = 4294967295), if nmV t E i 3 = 4294967295 then R else seR R 5 (nmV t E i 3 * 2), nmE t E i, skB t E i)
theorem seR_se (R : Nat → Nat) (k v u : Nat) : seR (seR R k v) k u = seR R k u := by
  funext i
  unfold seR
  split <;> rfl
theorem w228 {X : gv_X} {d : Nat} {G : gv_Sh} {A : Nat → Nat → Nat} {j : Nat → Nat → Int64} {cc : gv_Rs} {P : gv_O × gv_S → Prop} {R : Nat → Nat} (hp263 : oX12 G 263) (hR : A 264 = R) (H : ((R 0) < 4294967296) ∧ (((¬ (R 0) = 8) → EvP X (d + 4) gvm_228 15 [some (.ref 263), some (.int (nI (R 0))), some (.int (nI 0))] [] (G, (mI A, j), cc) P) ∧ (((R 0) = 8) → P (.inl (some (.int (nI 0))), (G, (mI A, j), cc))))) : EvP X (d + 4) gvm_228 0 (gv_enter [.ref 263] 3) [] (G, (mI A, j), cc) P :=
  by
  subst hR
  exact (pv_aload_n rfl rfl   (pv_virt rfl rfl rfl rfl rfl (oX12_k hp263) rfl rfl rfl (r_ops (A := A) hp263 ) (pv_istore_n rfl rfl   (pv_iload_n rfl rfl   (pn_bipush rfl rfl   (pn_ic_ne rfl H.1 (by decide) (fun c1 => (pn_iconst rfl rfl   (pv_istore_n rfl rfl   (H.2.1 c1)))) (fun c1 => (pn_iconst rfl rfl   (pv_iretz rfl rfl (Or.inl rfl) (H.2.2 c1))))))))))
theorem w228_15 {X : gv_X} {d : Nat} {G : gv_Sh} {A : Nat → Nat → Nat} {j : Nat → Nat → Int64} {cc : gv_Rs} {P : gv_O × gv_S → Prop} {R : Nat → Nat} {l1 : Nat} {l2 : Nat} (hp263 : oX12 G 263) (hR : A 264 = R) (H : (l2 < 2147483648) ∧ (((9 ≤ l2) → (A 263 11 ≤ 400) ∧ ((A 263 10 ≤ A 263 11) ∧ ((∀ i, i < 400 → A 269 i < 4294967296) ∧ ((1 ≤ 2 ∧ 2 < 40) ∧ ((∀ A2 : Nat → Nat → Nat, A2 = (lx A (psE (A 269) (A 263 11) (A 263 10) 2) (skB (A 269) (A 263 11) (A 263 10))) → (((psB (A 269) (A 263 11) (A 263 10) 2) = false) → (((30 + (9 * l1)) + 1) < 2066) ∧ ((A2 263 11 ≤ 400) ∧ ((A2 263 10 ≤ A2 263 11) ∧ ((∀ i, i < 400 → A2 269 i < 4294967296) ∧ ((l1 < 8) ∧ (((gu A2 264 ((30 + (9 * l1)) + 1) 0) 264 (30 + 9 * l1 + 0) ≤ 3) ∧ ((∀ A4 : Nat → Nat → Nat, A4 = (rm (gu A2 264 ((30 + (9 * l1)) + 1) 0) (msS (A2 269) (A2 263 11) l1 ((gu A2 264 ((30 + (9 * l1)) + 1) 0) 264) (A2 263 10)).2.1 (msS (A2 269) (A2 263 11) l1 ((gu A2 264 ((30 + (9 * l1)) + 1) 0) 264) (A2 263 10)).2.2.1 (msS (A2 269) (A2 263 11) l1 ((gu A2 264 ((30 + (9 * l1)) + 1) 0) 264) (A2 263 10)).2.2.2) → (((msS (A2 269) (A2 263 11) l1 ((gu A2 264 ((30 + (9 * l1)) + 1) 0) 264) (A2 263 10)).1 = true) → P (.inl (some (.int (nI 1))), (G, (mI (gu A4 264 0 ((A4 264 0) + 1)), j), cc))) ∧ (((msS (A2 269) (A2 263 11) l1 ((gu A2 264 ((30 + (9 * l1)) + 1) 0) 264) (A2 263 10)).1 = false) → P (.inl (some (.int (nI 0))), (G, (mI A4, j), cc))))))))))) ∧ (((psB (A 269) (A 263 11) (A 263 10) 2) = true) → (((30 + (9 * l1)) + 1) < 2066) ∧ ((A2 263 11 ≤ 400) ∧ ((A2 263 10 ≤ A2 263 11) ∧ ((∀ i, i < 400 → A2 269 i < 4294967296) ∧ ((l1 < 8) ∧ (((gu A2 264 ((30 + (9 * l1)) + 1) 1) 264 (30 + 9 * l1 + 0) ≤ 3) ∧ ((∀ A6 : Nat → Nat → Nat, A6 = (rm (gu A2 264 ((30 + (9 * l1)) + 1) 1) (msS (A2 269) (A2 263 11) l1 ((gu A2 264 ((30 + (9 * l1)) + 1) 1) 264) (A2 263 10)).2.1 (msS (A2 269) (A2 263 11) l1 ((gu A2 264 ((30 + (9 * l1)) + 1) 1) 264) (A2 263 10)).2.2.1 (msS (A2 269) (A2 263 11) l1 ((gu A2 264 ((30 + (9 * l1)) + 1) 1) 264) (A2 263 10)).2.2.2) → (((msS (A2 269) (A2 263 11) l1 ((gu A2 264 ((30 + (9 * l1)) + 1) 1) 264) (A2 263 10)).1 = true) → P (.inl (some (.int (nI 1))), (G, (mI (gu A6 264 0 ((A6 264 0) + 1)), j), cc))) ∧ (((msS (A2 269) (A2 263 11) l1 ((gu A2 264 ((30 + (9 * l1)) + 1) 1) 264) (A2 263 10)).1 = false) → P (.inl (some (.int (nI 0))), (G, (mI A6, j), cc))))))))))))))))) ∧ ((l2 < 9) → (((30 + (9 * l1)) + l2) < 2066) ∧ (EvP X (d + 4) gvm_228 15 [some (.ref 263), some (.int (nI l1)), some (.int (nI (l2 + 1)))] [] (G, (mI (gu A 264 ((30 + (9 * l1)) + l2) 0), j), cc) P)))) : EvP X (d + 4) gvm_228 15 [some (.ref 263), some (.int (nI l1)), some (.int (nI l2))] [] (G, (mI A, j), cc) P :=
  by
  subst hR
  exact (pv_iload_n rfl rfl   (pn_bipush rfl rfl   (pn_ic_ge rfl H.1 (by decide) (fun c1 => (pv_aload_n rfl rfl   (pv_getP rfl rfl (oX12_k hp263) (oX12_1 hp263)   (pv_iload_n rfl rfl   (pn_iconst rfl rfl   (pv_stat rfl rfl rfl rfl rfl rfl rfl rfl (r_opAt (p := l1) (what := 1) (A := A)  ) (pv_aload_n rfl rfl   (pv_ldcS rfl   (match (⟨(lx A (psE (A 269) (A 263 11) (A 263 10) 2) (skB (A 269) (A 263 11) (A 263 10))), rfl⟩ : ∃ Z : Nat → Nat → Nat, Z = (lx A (psE (A 269) (A 263 11) (A 263 10) 2) (skB (A 269) (A 263 11) (A 263 10)))) with | ⟨A2, q2⟩ => pv_virt rfl rfl rfl rfl rfl (oX12_k hp263) rfl rfl rfl (ev_eqM q2 (r_passes (q := 2) (A := A) hp263 (H.2.1 c1).1 (H.2.1 c1).2.1 (H.2.1 c1).2.2.1 (H.2.1 c1).2.2.2.1 )) (pv_if_eq_zo rfl  (fun c3 => (pn_iconst rfl rfl   (pn_iast rfl (oX12_1c hp263) (by decide) (((H.2.1 c1).2.2.2.2 A2 q2).1 c3).1  (pv_aload_n rfl rfl   (pv_iload_n rfl rfl   (match (⟨(rm (gu A2 264 ((30 + (9 * l1)) + 1) 0) (msS (A2 269) (A2 263 11) l1 ((gu A2 264 ((30 + (9 * l1)) + 1) 0) 264) (A2 263 10)).2.1 (msS (A2 269) (A2 263 11) l1 ((gu A2 264 ((30 + (9 * l1)) + 1) 0) 264) (A2 263 10)).2.2.1 (msS (A2 269) (A2 263 11) l1 ((gu A2 264 ((30 + (9 * l1)) + 1) 0) 264) (A2 263 10)).2.2.2), rfl⟩ : ∃ Z : Nat → Nat → Nat, Z = (rm (gu A2 264 ((30 + (9 * l1)) + 1) 0) (msS (A2 269) (A2 263 11) l1 ((gu A2 264 ((30 + (9 * l1)) + 1) 0) 264) (A2 263 10)).2.1 (msS (A2 269) (A2 263 11) l1 ((gu A2 264 ((30 + (9 * l1)) + 1) 0) 264) (A2 263 10)).2.2.1 (msS (A2 269) (A2 263 11) l1 ((gu A2 264 ((30 + (9 * l1)) + 1) 0) 264) (A2 263 10)).2.2.2)) with | ⟨A4, q4⟩ => pv_virt rfl rfl rfl rfl rfl (oX12_k hp263) rfl rfl rfl (ev_eqM q4 (r_readMicros (p := l1) (A := (gu A2 264 ((30 + (9 * l1)) + 1) 0)) hp263 (((H.2.1 c1).2.2.2.2 A2 q2).1 c3).2.1 (((H.2.1 c1).2.2.2.2 A2 q2).1 c3).2.2.1 (((H.2.1 c1).2.2.2.2 A2 q2).1 c3).2.2.2.1 (((H.2.1 c1).2.2.2.2 A2 q2).1 c3).2.2.2.2.1 (((H.2.1 c1).2.2.2.2 A2 q2).1 c3).2.2.2.2.2.1 )) (pv_if_ne_zo rfl  (fun c5 => (pv_aload_n rfl rfl   (pv_getP rfl rfl (oX12_k hp263) (oX12_1 hp263)   (pn_iconst rfl rfl   (pv_dup2 rfl rfl   (pn_iald rfl (oX12_1c hp263) (by decide) (by decide) rfl (pn_iconst rfl rfl   (pn_iadd rfl   (pn_iast rfl (oX12_1c hp263) (by decide) (by decide)  (pn_iconst rfl rfl   (pv_iretz rfl rfl (Or.inr rfl) (((((H.2.1 c1).2.2.2.2 A2 q2).1 c3).2.2.2.2.2.2 A4 q4).1 c5)))))))))))) (fun c5 => (pn_iconst rfl rfl   (pv_iretz rfl rfl (Or.inl rfl) (((((H.2.1 c1).2.2.2.2 A2 q2).1 c3).2.2.2.2.2.2 A4 q4).2 c5))))))))))) (fun c3 => (pn_iconst rfl rfl   (pv_goto rfl (pn_iast rfl (oX12_1c hp263) (by decide) (((H.2.1 c1).2.2.2.2 A2 q2).2 c3).1  (pv_aload_n rfl rfl   (pv_iload_n rfl rfl   (match (⟨(rm (gu A2 264 ((30 + (9 * l1)) + 1) 1) (msS (A2 269) (A2 263 11) l1 ((gu A2 264 ((30 + (9 * l1)) + 1) 1) 264) (A2 263 10)).2.1 (msS (A2 269) (A2 263 11) l1 ((gu A2 264 ((30 + (9 * l1)) + 1) 1) 264) (A2 263 10)).2.2.1 (msS (A2 269) (A2 263 11) l1 ((gu A2 264 ((30 + (9 * l1)) + 1) 1) 264) (A2 263 10)).2.2.2), rfl⟩ : ∃ Z : Nat → Nat → Nat, Z = (rm (gu A2 264 ((30 + (9 * l1)) + 1) 1) (msS (A2 269) (A2 263 11) l1 ((gu A2 264 ((30 + (9 * l1)) + 1) 1) 264) (A2 263 10)).2.1 (msS (A2 269) (A2 263 11) l1 ((gu A2 264 ((30 + (9 * l1)) + 1) 1) 264) (A2 263 10)).2.2.1 (msS (A2 269) (A2 263 11) l1 ((gu A2 264 ((30 + (9 * l1)) + 1) 1) 264) (A2 263 10)).2.2.2)) with | ⟨A6, q6⟩ => pv_virt rfl rfl rfl rfl rfl (oX12_k hp263) rfl rfl rfl (ev_eqM q6 (r_readMicros (p := l1) (A := (gu A2 264 ((30 + (9 * l1)) + 1) 1)) hp263 (((H.2.1 c1).2.2.2.2 A2 q2).2 c3).2.1 (((H.2.1 c1).2.2.2.2 A2 q2).2 c3).2.2.1 (((H.2.1 c1).2.2.2.2 A2 q2).2 c3).2.2.2.1 (((H.2.1 c1).2.2.2.2 A2 q2).2 c3).2.2.2.2.1 (((H.2.1 c1).2.2.2.2 A2 q2).2 c3).2.2.2.2.2.1 )) (pv_if_ne_zo rfl  (fun c7 => (pv_aload_n rfl rfl   (pv_getP rfl rfl (oX12_k hp263) (oX12_1 hp263)   (pn_iconst rfl rfl   (pv_dup2 rfl rfl   (pn_iald rfl (oX12_1c hp263) (by decide) (by decide) rfl (pn_iconst rfl rfl   (pn_iadd rfl   (pn_iast rfl (oX12_1c hp263) (by decide) (by decide)  (pn_iconst rfl rfl   (pv_iretz rfl rfl (Or.inr rfl) (((((H.2.1 c1).2.2.2.2 A2 q2).2 c3).2.2.2.2.2.2 A6 q6).1 c7)))))))))))) (fun c7 => (pn_iconst rfl rfl   (pv_iretz rfl rfl (Or.inl rfl) (((((H.2.1 c1).2.2.2.2 A2 q2).2 c3).2.2.2.2.2.2 A6 q6).2 c7)))))))))))))))))))))) (fun c1 => (pv_aload_n rfl rfl   (pv_getP rfl rfl (oX12_k hp263) (oX12_1 hp263)   (pv_iload_n rfl rfl   (pv_iload_n rfl rfl   (pv_stat rfl rfl rfl rfl rfl rfl rfl rfl (r_opAt (p := l1) (what := l2) (A := A)  ) (pn_iconst rfl rfl   (pn_iast rfl (oX12_1c hp263) (by decide) (H.2.2 c1).1  (pn_iinc rfl rfl rfl rfl   (pv_goto rfl (H.2.2 c1).2)))))))))))))
theorem rm_rm (A : Nat → Nat → Nat) (R S : Nat → Nat) (p b p' b' : Nat) : rm (rm A R p b) S p' b' = rm A S p' b' := by
  show gw (lx (rm A R p b) p' b') 264 S = _
  rw [rm_lx]
  unfold rm
  rw [gw_gw]
theorem r_readOp_p {X : gv_X} {d : Nat} {G : gv_Sh} {A : Nat → Nat → Nat} {j : Nat → Nat → Int64} {cc : gv_Rs} {P : gv_O × gv_S → Prop}  (hp263 : oX12 G 263) (p0 : A 263 11 ≤ 400) (p1 : A 263 10 ≤ A 263 11) (p2 : ∀ i, i < 400 → A 269 i < 4294967296) (p3 : A 264 0 ≤ 8) (hP : P (.inl (some (.int (zo (opS (A 269) (A 263 11) (A 264) (A 263 10) (A 263 12)).1))), (G, (mI (rm A (opS (A 269) (A 263 11) (A 264) (A 263 10) (A 263 12)).2.1 (opS (A 269) (A 263 11) (A 264) (A 263 10) (A 263 12)).2.2.1 (opS (A 269) (A 263 11) (A 264) (A 263 10) (A 263 12)).2.2.2), j), cc))) : EvP X (d + 4) gvm_228 0 (gv_enter [.ref 263] 3) [] (G, (mI A, j), cc) P := by
  have bp := psE_b (t := (A 269)) (E := (A 263 11)) (i := (A 263 10)) (q := 2) p1
  have hp3 : (A 263 10) ≤ (A 263 11) := p1
  have L : ¬ A 264 0 = 8 → ∀ n k, n + k = 9 → EvP X (d + 4) gvm_228 15 [some (.ref 263), some (.int (nI (A 264 0))), some (.int (nI k))] [] (G, (mI (rm A (zpN (A 264) (A 264 0) k) (A 263 10) (A 263 12)), j), cc) P := by
    intro h8 n
    induction n with
    | zero =>
      intro k hk
      obtain rfl : k = 9 := by omega
      obtain ⟨M, hM⟩ : ∃ M, M = rm A (zpN (A 264) (A 264 0) 9) (A 263 10) (A 263 12) := ⟨_, rfl⟩
      have m4 : M 264 = zpN (A 264) (A 264 0) 9 := by rw [hM, rm_4]
      have m10 : M 263 10 = (A 263 10) := by rw [hM, rm_p]
      have m12 : M 263 12 = (A 263 12) := by rw [hM, rm_b]
      have m11 : M 263 11 = (A 263 11) := by rw [hM, rm_11]
      have m9 : M 269 = (A 269) := by rw [hM, rm_9]
      have z0 : ∀ v, seR (zpN (A 264) (A 264 0) 9) (30 + 9 * (A 264 0) + 1) v (30 + 9 * (A 264 0) + 0) = 0 := fun v => by rw [seR_ne (by omega)]; unfold zpN; rw [if_pos (by omega)]
      rw [← hM]
      refine w228_15 hp263 m4  ⟨by (first | omega | (rw [m11]; omega) | (rw [m10, m11]; omega) | (rw [m9]; exact p2) | (rw [q2, hM]; simp only [rm_lx, rm_p, rm_11, rm_9, rm_gu]; first | omega | exact p2) | (rw [q2, hM]; simp only [rm_lx, rm_p, rm_11, rm_9, rm_gu, rm_4]; rw [z0]; omega)), ⟨fun c1 => ⟨by (first | omega | (rw [m11]; omega) | (rw [m10, m11]; omega) | (rw [m9]; exact p2) | (rw [q2, hM]; simp only [rm_lx, rm_p, rm_11, rm_9, rm_gu]; first | omega | exact p2) | (rw [q2, hM]; simp only [rm_lx, rm_p, rm_11, rm_9, rm_gu, rm_4]; rw [z0]; omega)), ⟨by (first | omega | (rw [m11]; omega) | (rw [m10, m11]; omega) | (rw [m9]; exact p2) | (rw [q2, hM]; simp only [rm_lx, rm_p, rm_11, rm_9, rm_gu]; first | omega | exact p2) | (rw [q2, hM]; simp only [rm_lx, rm_p, rm_11, rm_9, rm_gu, rm_4]; rw [z0]; omega)), ⟨by (first | omega | (rw [m11]; omega) | (rw [m10, m11]; omega) | (rw [m9]; exact p2) | (rw [q2, hM]; simp only [rm_lx, rm_p, rm_11, rm_9, rm_gu]; first | omega | exact p2) | (rw [q2, hM]; simp only [rm_lx, rm_p, rm_11, rm_9, rm_gu, rm_4]; rw [z0]; omega)), ⟨by (first | omega | (rw [m11]; omega) | (rw [m10, m11]; omega) | (rw [m9]; exact p2) | (rw [q2, hM]; simp only [rm_lx, rm_p, rm_11, rm_9, rm_gu]; first | omega | exact p2) | (rw [q2, hM]; simp only [rm_lx, rm_p, rm_11, rm_9, rm_gu, rm_4]; rw [z0]; omega)), (fun A2 q2 => ⟨fun c3 => ⟨by (first | omega | (rw [m11]; omega) | (rw [m10, m11]; omega) | (rw [m9]; exact p2) | (rw [q2, hM]; simp only [rm_lx, rm_p, rm_11, rm_9, rm_gu]; first | omega | exact p2) | (rw [q2, hM]; simp only [rm_lx, rm_p, rm_11, rm_9, rm_gu, rm_4]; rw [z0]; omega)), ⟨by (first | omega | (rw [m11]; omega) | (rw [m10, m11]; omega) | (rw [m9]; exact p2) | (rw [q2, hM]; simp only [rm_lx, rm_p, rm_11, rm_9, rm_gu]; first | omega | exact p2) | (rw [q2, hM]; simp only [rm_lx, rm_p, rm_11, rm_9, rm_gu, rm_4]; rw [z0]; omega)), ⟨by (first | omega | (rw [m11]; omega) | (rw [m10, m11]; omega) | (rw [m9]; exact p2) | (rw [q2, hM]; simp only [rm_lx, rm_p, rm_11, rm_9, rm_gu]; first | omega | exact p2) | (rw [q2, hM]; simp only [rm_lx, rm_p, rm_11, rm_9, rm_gu, rm_4]; rw [z0]; omega)), ⟨by (first | omega | (rw [m11]; omega) | (rw [m10, m11]; omega) | (rw [m9]; exact p2) | (rw [q2, hM]; simp only [rm_lx, rm_p, rm_11, rm_9, rm_gu]; first | omega | exact p2) | (rw [q2, hM]; simp only [rm_lx, rm_p, rm_11, rm_9, rm_gu, rm_4]; rw [z0]; omega)), ⟨by (first | omega | (rw [m11]; omega) | (rw [m10, m11]; omega) | (rw [m9]; exact p2) | (rw [q2, hM]; simp only [rm_lx, rm_p, rm_11, rm_9, rm_gu]; first | omega | exact p2) | (rw [q2, hM]; simp only [rm_lx, rm_p, rm_11, rm_9, rm_gu, rm_4]; rw [z0]; omega)), ⟨by (first | omega | (rw [m11]; omega) | (rw [m10, m11]; omega) | (rw [m9]; exact p2) | (rw [q2, hM]; simp only [rm_lx, rm_p, rm_11, rm_9, rm_gu]; first | omega | exact p2) | (rw [q2, hM]; simp only [rm_lx, rm_p, rm_11, rm_9, rm_gu, rm_4]; rw [z0]; omega)), (fun A4 q4 => ⟨fun c5 => ?_, fun c5 => ?_⟩)⟩⟩⟩⟩⟩⟩, fun c3 => ⟨by (first | omega | (rw [m11]; omega) | (rw [m10, m11]; omega) | (rw [m9]; exact p2) | (rw [q2, hM]; simp only [rm_lx, rm_p, rm_11, rm_9, rm_gu]; first | omega | exact p2) | (rw [q2, hM]; simp only [rm_lx, rm_p, rm_11, rm_9, rm_gu, rm_4]; rw [z0]; omega)), ⟨by (first | omega | (rw [m11]; omega) | (rw [m10, m11]; omega) | (rw [m9]; exact p2) | (rw [q2, hM]; simp only [rm_lx, rm_p, rm_11, rm_9, rm_gu]; first | omega | exact p2) | (rw [q2, hM]; simp only [rm_lx, rm_p, rm_11, rm_9, rm_gu, rm_4]; rw [z0]; omega)), ⟨by (first | omega | (rw [m11]; omega) | (rw [m10, m11]; omega) | (rw [m9]; exact p2) | (rw [q2, hM]; simp only [rm_lx, rm_p, rm_11, rm_9, rm_gu]; first | omega | exact p2) | (rw [q2, hM]; simp only [rm_lx, rm_p, rm_11, rm_9, rm_gu, rm_4]; rw [z0]; omega)), ⟨by (first | omega | (rw [m11]; omega) | (rw [m10, m11]; omega) | (rw [m9]; exact p2) | (rw [q2, hM]; simp only [rm_lx, rm_p, rm_11, rm_9, rm_gu]; first | omega | exact p2) | (rw [q2, hM]; simp only [rm_lx, rm_p, rm_11, rm_9, rm_gu, rm_4]; rw [z0]; omega)), ⟨by (first | omega | (rw [m11]; omega) | (rw [m10, m11]; omega) | (rw [m9]; exact p2) | (rw [q2, hM]; simp only [rm_lx, rm_p, rm_11, rm_9, rm_gu]; first | omega | exact p2) | (rw [q2, hM]; simp only [rm_lx, rm_p, rm_11, rm_9, rm_gu, rm_4]; rw [z0]; omega)), ⟨by (first | omega | (rw [m11]; omega) | (rw [m10, m11]; omega) | (rw [m9]; exact p2) | (rw [q2, hM]; simp only [rm_lx, rm_p, rm_11, rm_9, rm_gu]; first | omega | exact p2) | (rw [q2, hM]; simp only [rm_lx, rm_p, rm_11, rm_9, rm_gu, rm_4]; rw [z0]; omega)), (fun A6 q6 => ⟨fun c7 => ?_, fun c7 => ?_⟩)⟩⟩⟩⟩⟩⟩⟩)⟩⟩⟩⟩, fun c1 => ⟨by (first | omega | (rw [m11]; omega) | (rw [m10, m11]; omega) | (rw [m9]; exact p2) | (rw [q2, hM]; simp only [rm_lx, rm_p, rm_11, rm_9, rm_gu]; first | omega | exact p2) | (rw [q2, hM]; simp only [rm_lx, rm_p, rm_11, rm_9, rm_gu, rm_4]; rw [z0]; omega)), ?_⟩⟩⟩
      · rw [m9, m11, m10] at c3
        have hg : (psB (A 269) (A 263 11) (A 263 10) 2).toNat = 0 := by rw [c3]; rfl
        rw [hM, rm_lx] at q2
        simp only [rm_9, rm_11, rm_p] at q2
        rw [q2] at q4
        simp only [rm_gu, rm_4, rm_9, rm_11, rm_p, rm_lx, rm_rm] at q4
        simp only [q2, rm_gu, rm_4, rm_9, rm_11, rm_p] at c5
        have hs : (opS (A 269) (A 263 11) (A 264) (A 263 10) (A 263 12)) = if (msS (A 269) (A 263 11) (A 264 0) (seR (zpN (A 264) (A 264 0) 9) (30 + 9 * (A 264 0) + 1) 0) (psE (A 269) (A 263 11) (A 263 10) 2)).1 = true then (true, seR (msS (A 269) (A 263 11) (A 264 0) (seR (zpN (A 264) (A 264 0) 9) (30 + 9 * (A 264 0) + 1) 0) (psE (A 269) (A 263 11) (A 263 10) 2)).2.1 0 ((msS (A 269) (A 263 11) (A 264 0) (seR (zpN (A 264) (A 264 0) 9) (30 + 9 * (A 264 0) + 1) 0) (psE (A 269) (A 263 11) (A 263 10) 2)).2.1 0 + 1), (msS (A 269) (A 263 11) (A 264 0) (seR (zpN (A 264) (A 264 0) 9) (30 + 9 * (A 264 0) + 1) 0) (psE (A 269) (A 263 11) (A 263 10) 2)).2.2) else (msS (A 269) (A 263 11) (A 264 0) (seR (zpN (A 264) (A 264 0) 9) (30 + 9 * (A 264 0) + 1) 0) (psE (A 269) (A 263 11) (A 263 10) 2)) := by unfold opS; rw [if_neg h8, hg]
        rw [hs] at hP
        rw [if_pos c5] at hP
        rw [q4, rm_gu, rm_4]
        exact qz1 hP rfl
      · rw [m9, m11, m10] at c3
        have hg : (psB (A 269) (A 263 11) (A 263 10) 2).toNat = 0 := by rw [c3]; rfl
        rw [hM, rm_lx] at q2
        simp only [rm_9, rm_11, rm_p] at q2
        rw [q2] at q4
        simp only [rm_gu, rm_4, rm_9, rm_11, rm_p, rm_lx, rm_rm] at q4
        simp only [q2, rm_gu, rm_4, rm_9, rm_11, rm_p] at c5
        have hs : (opS (A 269) (A 263 11) (A 264) (A 263 10) (A 263 12)) = if (msS (A 269) (A 263 11) (A 264 0) (seR (zpN (A 264) (A 264 0) 9) (30 + 9 * (A 264 0) + 1) 0) (psE (A 269) (A 263 11) (A 263 10) 2)).1 = true then (true, seR (msS (A 269) (A 263 11) (A 264 0) (seR (zpN (A 264) (A 264 0) 9) (30 + 9 * (A 264 0) + 1) 0) (psE (A 269) (A 263 11) (A 263 10) 2)).2.1 0 ((msS (A 269) (A 263 11) (A 264 0) (seR (zpN (A 264) (A 264 0) 9) (30 + 9 * (A 264 0) + 1) 0) (psE (A 269) (A 263 11) (A 263 10) 2)).2.1 0 + 1), (msS (A 269) (A 263 11) (A 264 0) (seR (zpN (A 264) (A 264 0) 9) (30 + 9 * (A 264 0) + 1) 0) (psE (A 269) (A 263 11) (A 263 10) 2)).2.2) else (msS (A 269) (A 263 11) (A 264 0) (seR (zpN (A 264) (A 264 0) 9) (30 + 9 * (A 264 0) + 1) 0) (psE (A 269) (A 263 11) (A 263 10) 2)) := by unfold opS; rw [if_neg h8, hg]
        rw [hs] at hP
        rw [if_neg (by rw [c5]; decide)] at hP
        rw [q4]
        exact qz0 hP c5
      · rw [m9, m11, m10] at c3
        have hg : (psB (A 269) (A 263 11) (A 263 10) 2).toNat = 1 := by rw [c3]; rfl
        rw [hM, rm_lx] at q2
        simp only [rm_9, rm_11, rm_p] at q2
        rw [q2] at q6
        simp only [rm_gu, rm_4, rm_9, rm_11, rm_p, rm_lx, rm_rm] at q6
        simp only [q2, rm_gu, rm_4, rm_9, rm_11, rm_p] at c7
        have hs : (opS (A 269) (A 263 11) (A 264) (A 263 10) (A 263 12)) = if (msS (A 269) (A 263 11) (A 264 0) (seR (zpN (A 264) (A 264 0) 9) (30 + 9 * (A 264 0) + 1) 1) (psE (A 269) (A 263 11) (A 263 10) 2)).1 = true then (true, seR (msS (A 269) (A 263 11) (A 264 0) (seR (zpN (A 264) (A 264 0) 9) (30 + 9 * (A 264 0) + 1) 1) (psE (A 269) (A 263 11) (A 263 10) 2)).2.1 0 ((msS (A 269) (A 263 11) (A 264 0) (seR (zpN (A 264) (A 264 0) 9) (30 + 9 * (A 264 0) + 1) 1) (psE (A 269) (A 263 11) (A 263 10) 2)).2.1 0 + 1), (msS (A 269) (A 263 11) (A 264 0) (seR (zpN (A 264) (A 264 0) 9) (30 + 9 * (A 264 0) + 1) 1) (psE (A 269) (A 263 11) (A 263 10) 2)).2.2) else (msS (A 269) (A 263 11) (A 264 0) (seR (zpN (A 264) (A 264 0) 9) (30 + 9 * (A 264 0) + 1) 1) (psE (A 269) (A 263 11) (A 263 10) 2)) := by unfold opS; rw [if_neg h8, hg]
        rw [hs] at hP
        rw [if_pos c7] at hP
        rw [q6, rm_gu, rm_4]
        exact qz1 hP rfl
      · rw [m9, m11, m10] at c3
        have hg : (psB (A 269) (A 263 11) (A 263 10) 2).toNat = 1 := by rw [c3]; rfl
        rw [hM, rm_lx] at q2
        simp only [rm_9, rm_11, rm_p] at q2
        rw [q2] at q6
        simp only [rm_gu, rm_4, rm_9, rm_11, rm_p, rm_lx, rm_rm] at q6
        simp only [q2, rm_gu, rm_4, rm_9, rm_11, rm_p] at c7
        have hs : (opS (A 269) (A 263 11) (A 264) (A 263 10) (A 263 12)) = if (msS (A 269) (A 263 11) (A 264 0) (seR (zpN (A 264) (A 264 0) 9) (30 + 9 * (A 264 0) + 1) 1) (psE (A 269) (A 263 11) (A 263 10) 2)).1 = true then (true, seR (msS (A 269) (A 263 11) (A 264 0) (seR (zpN (A 264) (A 264 0) 9) (30 + 9 * (A 264 0) + 1) 1) (psE (A 269) (A 263 11) (A 263 10) 2)).2.1 0 ((msS (A 269) (A 263 11) (A 264 0) (seR (zpN (A 264) (A 264 0) 9) (30 + 9 * (A 264 0) + 1) 1) (psE (A 269) (A 263 11) (A 263 10) 2)).2.1 0 + 1), (msS (A 269) (A 263 11) (A 264 0) (seR (zpN (A 264) (A 264 0) 9) (30 + 9 * (A 264 0) + 1) 1) (psE (A 269) (A 263 11) (A 263 10) 2)).2.2) else (msS (A 269) (A 263 11) (A 264 0) (seR (zpN (A 264) (A 264 0) 9) (30 + 9 * (A 264 0) + 1) 1) (psE (A 269) (A 263 11) (A 263 10) 2)) := by unfold opS; rw [if_neg h8, hg]
        rw [hs] at hP
        rw [if_neg (by rw [c7]; decide)] at hP
        rw [q6]
        exact qz0 hP c7
      · omega
    | succ n ih =>
      intro k hk
      refine w228_15 hp263 (rm_4 _ _ _ _) ⟨by omega, fun c1 => by omega, fun c1 => ⟨by omega, ?_⟩⟩
      rw [rm_gu, zpN_s]
      exact ih (k + 1) (by omega)
  refine w228 hp263 rfl  ⟨by (first | omega | assumption), ⟨fun c1 => ?_, fun c1 => ?_⟩⟩
  · have := L c1 9 0 (by omega)
    rw [zpN_0, rm_id] at this
    exact this
  · have hs : (opS (A 269) (A 263 11) (A 264) (A 263 10) (A 263 12)) = (false, A 264, (A 263 10), (A 263 12)) := if_pos (by omega)
    rw [hs] at hP
    exact qz0 (qm hP (rm_id A)) rfl
theorem r_readOp {X : gv_X} {d : Nat} {G : gv_Sh} {A : Nat → Nat → Nat} {j : Nat → Nat → Int64} {cc : gv_Rs}  (hp263 : oX12 G 263) (p0 : A 263 11 ≤ 400) (p1 : A 263 10 ≤ A 263 11) (p2 : ∀ i, i < 400 → A 269 i < 4294967296) (p3 : A 264 0 ≤ 8) : Ev X (d + 4) gvm_228 0 (gv_enter [.ref 263] 3) [] (G, (mI A, j), cc) (.inl (some (.int (zo (opS (A 269) (A 263 11) (A 264) (A 263 10) (A 263 12)).1))), (G, (mI (rm A (opS (A 269) (A 263 11) (A 264) (A 263 10) (A 263 12)).2.1 (opS (A 269) (A 263 11) (A 264) (A 263 10) (A 263 12)).2.2.1 (opS (A 269) (A 263 11) (A 264) (A 263 10) (A 263 12)).2.2.2), j), cc)) := evp_det (r_readOp_p hp263 p0 p1 p2 p3 rfl)
theorem w231 {X : gv_X} {d : Nat} {G : gv_Sh} {A : Nat → Nat → Nat} {j : Nat → Nat → Int64} {cc : gv_Rs} {P : gv_O × gv_S → Prop}  (hp263 : oX12 G 263) (H : (A 263 11 ≤ 400) ∧ ((A 263 10 ≤ A 263 11) ∧ ((∀ i, i < 400 → A 269 i < 4294967296) ∧ ((∀ A1 : Nat → Nat → Nat, A1 = (rm A (rnS (A 269) (A 263 11) (A 264) (A 263 10) 5 3).2.1 (rnS (A 269) (A 263 11) (A 264) (A 263 10) 5 3).2.2.1 (rnS (A 269) (A 263 11) (A 264) (A 263 10) 5 3).2.2.2) → (((rnS (A 269) (A 263 11) (A 264) (A 263 10) 5 3).1 = false) → P (.inl (some (.int (zo (rnS (A 269) (A 263 11) (A 264) (A 263 10) 5 3).1))), (G, (mI (gu A1 264 5 ((A1 264 5) * 1)), j), cc))) ∧ (((rnS (A 269) (A 263 11) (A 264) (A 263 10) 5 3).1 = true) → P (.inl (some (.int (zo (rnS (A 269) (A 263 11) (A 264) (A 263 10) 5 3).1))), (G, (mI (gu A1 264 5 ((A1 264 5) * 2)), j), cc)))))))) : EvP X (d + 4) gvm_231 0 (gv_enter [.ref 263] 2) [] (G, (mI A, j), cc) P :=
  (pv_aload_n rfl rfl   (pn_iconst rfl rfl   (pn_iconst rfl rfl   (match (⟨(rm A (rnS (A 269) (A 263 11) (A 264) (A 263 10) 5 3).2.1 (rnS (A 269) (A 263 11) (A 264) (A 263 10) 5 3).2.2.1 (rnS (A 269) (A 263 11) (A 264) (A 263 10) 5 3).2.2.2), rfl⟩ : ∃ Z : Nat → Nat → Nat, Z = (rm A (rnS (A 269) (A 263 11) (A 264) (A 263 10) 5 3).2.1 (rnS (A 269) (A 263 11) (A 264) (A 263 10) 5 3).2.2.1 (rnS (A 269) (A 263 11) (A 264) (A 263 10) 5 3).2.2.2)) with | ⟨A1, q1⟩ => pv_virt rfl rfl rfl rfl rfl (oX12_k hp263) rfl rfl rfl (ev_eqM q1 (r_readNumber (ad := 5) (h := 3) (A := A) hp263 H.1 H.2.1 H.2.2.1 (by decide) (by decide) )) (pv_istore_n rfl rfl   (pv_aload_n rfl rfl   (pv_getP rfl rfl (oX12_k hp263) (oX12_1 hp263)   (pn_iconst rfl rfl   (pv_dup2 rfl rfl   (pn_iald rfl (oX12_1c hp263) (by decide) (by decide) rfl (pv_iload_n rfl rfl   (pv_if_eq_zo rfl  (fun c2 => (pn_iconst rfl rfl   (pn_imul rfl   (pn_iast rfl (oX12_1c hp263) (by decide) (by decide)  (pv_iload_n rfl rfl   (pv_iretz rfl rfl (zo_b _) ((H.2.2.2 A1 q1).1 c2))))))) (fun c2 => (pn_iconst rfl rfl   (pv_goto rfl (pn_imul rfl   (pn_iast rfl (oX12_1c hp263) (by decide) (by decide)  (pv_iload_n rfl rfl   (pv_iretz rfl rfl (zo_b _) ((H.2.2.2 A1 q1).2 c2))))))))))))))))))))
theorem r_readShift_p {X : gv_X} {d : Nat} {G : gv_Sh} {A : Nat → Nat → Nat} {j : Nat → Nat → Int64} {cc : gv_Rs} {P : gv_O × gv_S → Prop}  (hp263 : oX12 G 263) (p0 : A 263 11 ≤ 400) (p1 : A 263 10 ≤ A 263 11) (p2 : ∀ i, i < 400 → A 269 i < 4294967296) (hP : P (.inl (some (.int (zo (shS (A 269) (A 263 11) (A 264) (A 263 10)).1))), (G, (mI (rm A (shS (A 269) (A 263 11) (A 264) (A 263 10)).2.1 (shS (A 269) (A 263 11) (A 264) (A 263 10)).2.2.1 (shS (A 269) (A 263 11) (A 264) (A 263 10)).2.2.2), j), cc))) : EvP X (d + 4) gvm_231 0 (gv_enter [.ref 263] 2) [] (G, (mI A, j), cc) P := by
  refine w231 hp263  ⟨by (first | omega | assumption), ⟨by (first | omega | assumption), ⟨by (first | omega | assumption), (fun A1 q1 => ⟨fun c2 => ?_, fun c2 => ?_⟩)⟩⟩⟩
  · have hv : nmV (A 269) (A 263 11) (A 263 10) 3 = 4294967295 := of_decide_eq_true (by have := c2; unfold rnS at this; simpa using this)
    rw [q1, rm_4, Nat.mul_one, rm_gu, seR_id rfl]
    have e1 : (rnS (A 269) (A 263 11) (A 264) (A 263 10) 5 3) = (shS (A 269) (A 263 11) (A 264) (A 263 10)) := by unfold rnS shS; rw [if_pos hv, if_pos hv]
    rw [e1]
    exact hP
  · have hv : ¬ nmV (A 269) (A 263 11) (A 263 10) 3 = 4294967295 := of_decide_eq_false (by have := c2; unfold rnS at this; simpa using this)
    rw [q1, rm_4, rm_gu]
    have e1 : (rnS (A 269) (A 263 11) (A 264) (A 263 10) 5 3).1 = (shS (A 269) (A 263 11) (A 264) (A 263 10)).1 := rfl
    rw [e1]
    have r1 : (rnS (A 269) (A 263 11) (A 264) (A 263 10) 5 3).2.1 = seR (A 264) 5 (nmV (A 269) (A 263 11) (A 263 10) 3) := if_neg hv
    have s1 : (shS (A 269) (A 263 11) (A 264) (A 263 10)).2.1 = seR (A 264) 5 (nmV (A 269) (A 263 11) (A 263 10) 3 * 2) := if_neg hv
    rw [r1, seR_at, seR_se]
    rw [s1] at hP
    exact hP
theorem r_readShift {X : gv_X} {d : Nat} {G : gv_Sh} {A : Nat → Nat → Nat} {j : Nat → Nat → Int64} {cc : gv_Rs}  (hp263 : oX12 G 263) (p0 : A 263 11 ≤ 400) (p1 : A 263 10 ≤ A 263 11) (p2 : ∀ i, i < 400 → A 269 i < 4294967296) : Ev X (d + 4) gvm_231 0 (gv_enter [.ref 263] 2) [] (G, (mI A, j), cc) (.inl (some (.int (zo (shS (A 269) (A 263 11) (A 264) (A 263 10)).1))), (G, (mI (rm A (shS (A 269) (A 263 11) (A 264) (A 263 10)).2.1 (shS (A 269) (A 263 11) (A 264) (A 263 10)).2.2.1 (shS (A 269) (A 263 11) (A 264) (A 263 10)).2.2.2), j), cc)) := evp_det (r_readShift_p hp263 p0 p1 p2 rfl)
