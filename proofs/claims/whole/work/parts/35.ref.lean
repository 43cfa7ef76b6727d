/-! small methods of the reference, second piece -/
theorem w209 {X : gv_X} {d : Nat} {G : gv_Sh} {A : Nat → Nat → Nat} {j : Nat → Nat → Int64} {cc : gv_Rs} {r : gv_O × gv_S} {p : Nat} (hp263 : oX12 G 263) (H : (((inN p 0 (((A 264 0) + 4294967296 - 1) % 4294967296)) = true) → r = (.inl (some (.int (nI 0))), (G, (mI A, j), cc))) ∧ (((inN p 0 (((A 264 0) + 4294967296 - 1) % 4294967296)) = false) → r = (.inl (some (.int (nI 1))), (G, (mI A, j), cc)))) : Ev X (d + 1) gvm_209 0 (gv_enter [.ref 263, .int (nI p)] 2) [] (G, (mI A, j), cc) r :=
  (ev_iload_n rfl rfl   (en_iconst rfl rfl   (ev_aload_n rfl rfl   (ev_virt rfl rfl rfl rfl rfl (oX12_k hp263) rfl rfl rfl (r_ops (A := A) hp263 ) (en_iconst rfl rfl   (en_isubw rfl (by decide)  (ev_stat rfl rfl rfl rfl rfl rfl rfl rfl (r_in (v := p) (low := 0) (high := (((A 264 0) + 4294967296 - 1) % 4294967296)) (A := A)  ) (ev_if_ne_zo rfl  (fun c1 => (en_iconst rfl rfl   (ev_iretz rfl rfl (Or.inl rfl) (H.1 c1)))) (fun c1 => (en_iconst rfl rfl   (ev_goto rfl (ev_iretz rfl rfl (Or.inr rfl) (H.2 c1)))))))))))))
theorem r_noOp {X : gv_X} {d : Nat} {G : gv_Sh} {A : Nat → Nat → Nat} {j : Nat → Nat → Int64} {cc : gv_Rs} {p : Nat} (hp263 : oX12 G 263) (p0 : A 264 0 ≤ 8) (p1 : p < 4294967296) : Ev X (d + 1) gvm_209 0 (gv_enter [.ref 263, .int (nI p)] 2) [] (G, (mI A, j), cc) (.inl (some (.int (zo (decide (A 264 0 ≤ p))))), (G, (mI A, j), cc)) := by
  refine w209 hp263  ⟨fun c1 => ?_, fun c1 => ?_⟩
  · rw [inN_m p1 (by omega)] at c1
    exact rz0 (by simp only [decide_eq_true_eq, decide_eq_false_iff_not] at c1 ⊢; omega)
  · rw [inN_m p1 (by omega)] at c1
    exact rz1 (by simp only [decide_eq_true_eq, decide_eq_false_iff_not] at c1 ⊢; omega)
theorem w249 {X : gv_X} {d : Nat} {G : gv_Sh} {A : Nat → Nat → Nat} {j : Nat → Nat → Int64} {cc : gv_Rs} {r : gv_O × gv_S} {s : Nat}  (H : (s < 2147483648) ∧ (((s / 4) < 2147483648) ∧ (r = (.inl (some (.int (nI ((s / 4) % 2)))), (G, (mI A, j), cc))))) : Ev X (d + 0) gvm_249 0 (gv_enter [.int (nI s)] 1) [] (G, (mI A, j), cc) r :=
  (ev_iload_n rfl rfl   (en_iconst rfl rfl   (en_idiv rfl H.1 (by decide) (by decide)  (en_iconst rfl rfl   (en_irem rfl H.2.1 (by decide) (by decide)  (ev_ireti rfl rfl H.2.2))))))
theorem r_modeOf {X : gv_X} {d : Nat} {G : gv_Sh} {A : Nat → Nat → Nat} {j : Nat → Nat → Int64} {cc : gv_Rs} {s : Nat}  (p0 : s < 2147483648) : Ev X (d + 0) gvm_249 0 (gv_enter [.int (nI s)] 1) [] (G, (mI A, j), cc) (.inl (some (.int (nI (s / 4 % 2)))), (G, (mI A, j), cc)) := by
  refine w249   ⟨by first | omega | decide, ⟨by first | omega | decide, ?_⟩⟩
  rfl
theorem w250 {X : gv_X} {d : Nat} {G : gv_Sh} {A : Nat → Nat → Nat} {j : Nat → Nat → Int64} {cc : gv_Rs} {r : gv_O × gv_S} {s : Nat}  (H : (s < 2147483648) ∧ (((s / 8) < 2147483648) ∧ (r = (.inl (some (.int (nI (2 * ((s / 8) % 4))))), (G, (mI A, j), cc))))) : Ev X (d + 0) gvm_250 0 (gv_enter [.int (nI s)] 1) [] (G, (mI A, j), cc) r :=
  (en_iconst rfl rfl   (ev_iload_n rfl rfl   (en_bipush rfl rfl   (en_idiv rfl H.1 (by decide) (by decide)  (en_iconst rfl rfl   (en_irem rfl H.2.1 (by decide) (by decide)  (en_imul rfl   (ev_ireti rfl rfl H.2.2))))))))
theorem r_baseOf {X : gv_X} {d : Nat} {G : gv_Sh} {A : Nat → Nat → Nat} {j : Nat → Nat → Int64} {cc : gv_Rs} {s : Nat}  (p0 : s < 2147483648) : Ev X (d + 0) gvm_250 0 (gv_enter [.int (nI s)] 1) [] (G, (mI A, j), cc) (.inl (some (.int (nI (2 * (s / 8 % 4))))), (G, (mI A, j), cc)) := by
  refine w250   ⟨by first | omega | decide, ⟨by first | omega | decide, ?_⟩⟩
  rfl
theorem w252 {X : gv_X} {d : Nat} {G : gv_Sh} {A : Nat → Nat → Nat} {j : Nat → Nat → Int64} {cc : gv_Rs} {r : gv_O × gv_S} {p : Nat} {mo : Nat} (hp263 : oX12 G 263) (H : (((30 + (9 * p)) + 1) < 2066) ∧ (((A 264 ((30 + (9 * p)) + 1)) < 4294967296) ∧ (((¬ (A 264 ((30 + (9 * p)) + 1)) = 1) → r = (.inl (some (.int (nI 0))), (G, (mI A, j), cc))) ∧ (((A 264 ((30 + (9 * p)) + 1)) = 1) → (mo < 4294967296) ∧ (((¬ mo = 0) → r = (.inl (some (.int (nI 0))), (G, (mI A, j), cc))) ∧ ((mo = 0) → r = (.inl (some (.int (nI 1))), (G, (mI A, j), cc)))))))) : Ev X (d + 2) gvm_252 0 (gv_enter [.ref 263, .int (nI p), .int (nI mo)] 3) [] (G, (mI A, j), cc) r :=
  (ev_aload_n rfl rfl   (ev_iload_n rfl rfl   (en_iconst rfl rfl   (ev_virt rfl rfl rfl rfl rfl (oX12_k hp263) rfl rfl rfl (r_of (p := p) (what := 1) (A := A) hp263 H.1 ) (en_iconst rfl rfl   (en_ic_ne rfl H.2.1 (by decide) (fun c1 => (en_iconst rfl rfl   (ev_iretz rfl rfl (Or.inl rfl) (H.2.2.1 c1)))) (fun c1 => (ev_iload_n rfl rfl   (en_if_ne rfl (H.2.2.2 c1).1 (fun c2 => (en_iconst rfl rfl   (ev_iretz rfl rfl (Or.inl rfl) ((H.2.2.2 c1).2.1 c2)))) (fun c2 => (en_iconst rfl rfl   (ev_goto rfl (ev_iretz rfl rfl (Or.inr rfl) ((H.2.2.2 c1).2.2 c2))))))))))))))
theorem r_trapsIn {X : gv_X} {d : Nat} {G : gv_Sh} {A : Nat → Nat → Nat} {j : Nat → Nat → Int64} {cc : gv_Rs} {p : Nat} {mo : Nat} (hp263 : oX12 G 263) (p0 : okW (A 264)) (p1 : p < 8) (p2 : mo < 4294967296) : Ev X (d + 2) gvm_252 0 (gv_enter [.ref 263, .int (nI p), .int (nI mo)] 3) [] (G, (mI A, j), cc) (.inl (some (.int (zo (decide (A 264 (30 + 9 * p + 1) = 1) && decide (mo = 0))))), (G, (mI A, j), cc)) := by
  have hb := okW_o p0 p1
  refine w252 hp263  ⟨by omega, ⟨by omega, ⟨fun c1 => ?_, fun c1 => ⟨by omega, ⟨fun c2 => ?_, fun c2 => ?_⟩⟩⟩⟩⟩
  · exact rz0 (by simp [c1])
  · exact rz0 (by simp [c1, c2])
  · exact rz1 (by simp [c1, c2])
theorem w270 {X : gv_X} {d : Nat} {G : gv_Sh} {A : Nat → Nat → Nat} {j : Nat → Nat → Int64} {cc : gv_Rs} {r : gv_O × gv_S} {g : Nat} (hp263 : oX12 G 263) (H : (((102 + (13 * g)) + 0) < 2066) ∧ (((A 264 ((102 + (13 * g)) + 0)) < 2147483648) ∧ (((A 264 3) < 2147483648) ∧ ((((A 264 ((102 + (13 * g)) + 0)) < (A 264 3)) → r = (.inl (some (.int (nI 0))), (G, (mI A, j), cc))) ∧ (((A 264 3) ≤ (A 264 ((102 + (13 * g)) + 0))) → r = (.inl (some (.int (nI 1))), (G, (mI A, j), cc))))))) : Ev X (d + 2) gvm_270 0 (gv_enter [.ref 263, .int (nI g)] 2) [] (G, (mI A, j), cc) r :=
  (ev_aload_n rfl rfl   (ev_iload_n rfl rfl   (en_iconst rfl rfl   (ev_virt rfl rfl rfl rfl rfl (oX12_k hp263) rfl rfl rfl (r_ofGuest (g := g) (what := 0) (A := A) hp263 H.1 ) (ev_aload_n rfl rfl   (ev_getP rfl rfl (oX12_k hp263) (oX12_1 hp263)   (en_iconst rfl rfl   (en_iald rfl (oX12_1c hp263) (by decide) (by decide) rfl (en_ic_lt rfl H.2.1 H.2.2.1 (fun c1 => (en_iconst rfl rfl   (ev_iretz rfl rfl (Or.inl rfl) (H.2.2.2.1 c1)))) (fun c1 => (en_iconst rfl rfl   (ev_goto rfl (ev_iretz rfl rfl (Or.inr rfl) (H.2.2.2.2 c1))))))))))))))
theorem r_isHalted {X : gv_X} {d : Nat} {G : gv_Sh} {A : Nat → Nat → Nat} {j : Nat → Nat → Int64} {cc : gv_Rs} {g : Nat} (hp263 : oX12 G 263) (p0 : okW (A 264)) (p1 : g < 2) : Ev X (d + 2) gvm_270 0 (gv_enter [.ref 263, .int (nI g)] 2) [] (G, (mI A, j), cc) (.inl (some (.int (zo (decide (A 264 3 ≤ A 264 (102 + 13 * g + 0)))))), (G, (mI A, j), cc)) := by
  have hb := okW_g p0 p1
  have hn := okW_n p0
  refine w270 hp263  ⟨by first | omega, ⟨by first | omega, ⟨by first | omega, ⟨fun c1 => ?_, fun c1 => ?_⟩⟩⟩⟩
  · exact rz0 (by simp only [decide_eq_false_iff_not]; omega)
  · exact rz1 (by simp only [decide_eq_true_eq]; omega)
theorem w273 {X : gv_X} {d : Nat} {G : gv_Sh} {A : Nat → Nat → Nat} {j : Nat → Nat → Int64} {cc : gv_Rs} {r : gv_O × gv_S} {g : Nat} (hp263 : oX12 G 263) (H : (((102 + (13 * g)) + 2) < 2066) ∧ ((((102 + (13 * g)) + 0) < 2066) ∧ (r = (.inl none, (G, (mI (gu (gu A 264 ((102 + (13 * g)) + 2) 1) 264 ((102 + (13 * g)) + 0) ((gu A 264 ((102 + (13 * g)) + 2) 1) 264 4)), j), cc))))) : Ev X (d + 1) gvm_273 0 (gv_enter [.ref 263, .int (nI g)] 2) [] (G, (mI A, j), cc) r :=
  (ev_aload_n rfl rfl   (ev_getP rfl rfl (oX12_k hp263) (oX12_1 hp263)   (ev_iload_n rfl rfl   (en_iconst rfl rfl   (ev_stat rfl rfl rfl rfl rfl rfl rfl rfl (r_guestAt (g := g) (what := 2) (A := A)  ) (en_iconst rfl rfl   (en_iast rfl (oX12_1c hp263) (by decide) H.1  (ev_aload_n rfl rfl   (ev_getP rfl rfl (oX12_k hp263) (oX12_1 hp263)   (ev_iload_n rfl rfl   (en_iconst rfl rfl   (ev_stat rfl rfl rfl rfl rfl rfl rfl rfl (r_guestAt (g := g) (what := 0) (A := (gu A 264 ((102 + (13 * g)) + 2) 1))  ) (ev_aload_n rfl rfl   (ev_getP rfl rfl (oX12_k hp263) (oX12_1 hp263)   (en_iconst rfl rfl   (en_iald rfl (oX12_1c hp263) (by decide) (by decide) rfl (en_iast rfl (oX12_1c hp263) (by decide) H.2.1  (ev_vret rfl H.2.2))))))))))))))))))
theorem r_isCaught {X : gv_X} {d : Nat} {G : gv_Sh} {A : Nat → Nat → Nat} {j : Nat → Nat → Int64} {cc : gv_Rs} {g : Nat} (hp263 : oX12 G 263) (p0 : g < 2) : Ev X (d + 1) gvm_273 0 (gv_enter [.ref 263, .int (nI g)] 2) [] (G, (mI A, j), cc) (.inl none, (G, (mI (gu (gu A 264 (102 + 13 * g + 2) 1) 264 (102 + 13 * g + 0) (A 264 4)), j), cc)) := by
  refine w273 hp263  ⟨by first | omega, ⟨by first | omega, ?_⟩⟩
  have e : gu A 264 ((102 + (13 * g)) + 2) 1 264 4 = A 264 4 := gu_k (by omega) rfl
  rw [e]
theorem w264 {X : gv_X} {d : Nat} {G : gv_Sh} {A : Nat → Nat → Nat} {j : Nat → Nat → Int64} {cc : gv_Rs} {r : gv_O × gv_S} {p : Nat} (hp263 : oX12 G 263) (H : Ev X (d + 0) gvm_264 4 [some (.ref 263), some (.int (nI p)), some (.int (nI 0)), some (.int (nI 0))] [] (G, (mI A, j), cc) r) : Ev X (d + 0) gvm_264 0 (gv_enter [.ref 263, .int (nI p)] 4) [] (G, (mI A, j), cc) r :=
  (en_iconst rfl rfl   (ev_istore_n rfl rfl   (en_iconst rfl rfl   (ev_istore_n rfl rfl   H))))
theorem w264_4 {X : gv_X} {d : Nat} {G : gv_Sh} {A : Nat → Nat → Nat} {j : Nat → Nat → Int64} {cc : gv_Rs} {r : gv_O × gv_S} {p : Nat} {l2 : Nat} {l3 : Nat} (hp263 : oX12 G 263) (H : (l3 < 2147483648) ∧ (((A 264 3) < 2147483648) ∧ ((((A 264 3) ≤ l3) → r = (.inl (some (.int (nI l2))), (G, (mI A, j), cc))) ∧ ((l3 < (A 264 3)) → ((12 + l3) < 2066) ∧ (((A 264 (12 + l3)) < 4294967296) ∧ ((p < 4294967296) ∧ (((¬ (A 264 (12 + l3)) = p) → Ev X (d + 0) gvm_264 4 [some (.ref 263), some (.int (nI p)), some (.int (nI (l2 + 0))), some (.int (nI (l3 + 1)))] [] (G, (mI A, j), cc) r) ∧ (((A 264 (12 + l3)) = p) → Ev X (d + 0) gvm_264 4 [some (.ref 263), some (.int (nI p)), some (.int (nI (l2 + 1))), some (.int (nI (l3 + 1)))] [] (G, (mI A, j), cc) r)))))))) : Ev X (d + 0) gvm_264 4 [some (.ref 263), some (.int (nI p)), some (.int (nI l2)), some (.int (nI l3))] [] (G, (mI A, j), cc) r :=
  (ev_iload_n rfl rfl   (ev_aload_n rfl rfl   (ev_getP rfl rfl (oX12_k hp263) (oX12_1 hp263)   (en_iconst rfl rfl   (en_iald rfl (oX12_1c hp263) (by decide) (by decide) rfl (en_ic_ge rfl H.1 H.2.1 (fun c1 => (ev_iload_n rfl rfl   (ev_ireti rfl rfl (H.2.2.1 c1)))) (fun c1 => (ev_iload_n rfl rfl   (ev_aload_n rfl rfl   (ev_getP rfl rfl (oX12_k hp263) (oX12_1 hp263)   (en_bipush rfl rfl   (ev_iload_n rfl rfl   (en_iadd rfl   (en_iald rfl (oX12_1c hp263) (by decide) (H.2.2.2 c1).1 rfl (ev_iload_n rfl rfl   (en_ic_ne rfl (H.2.2.2 c1).2.1 (H.2.2.2 c1).2.2.1 (fun c2 => (en_iconst rfl rfl   (en_iadd rfl   (ev_istore_n rfl rfl   (en_iinc rfl rfl rfl rfl   (ev_goto rfl ((H.2.2.2 c1).2.2.2.1 c2))))))) (fun c2 => (en_iconst rfl rfl   (ev_goto rfl (en_iadd rfl   (ev_istore_n rfl rfl   (en_iinc rfl rfl rfl rfl   (ev_goto rfl ((H.2.2.2 c1).2.2.2.2 c2))))))))))))))))))))))))
theorem r_usesOf {X : gv_X} {d : Nat} {G : gv_Sh} {A : Nat → Nat → Nat} {j : Nat → Nat → Int64} {cc : gv_Rs} {p : Nat} (hp263 : oX12 G 263) (p0 : okW (A 264)) (p1 : p < 4294967296) : Ev X (d + 0) gvm_264 0 (gv_enter [.ref 263, .int (nI p)] 4) [] (G, (mI A, j), cc) (.inl (some (.int (nI (cntN (fun k => decide (A 264 (12 + k) = p)) (A 264 3))))), (G, (mI A, j), cc)) := by
  have hn := okW_n p0
  have L : ∀ k, k ≤ A 264 3 → Ev X (d + 0) gvm_264 4 [some (.ref 263), some (.int (nI p)), some (.int (nI (cntN (fun k => decide (A 264 (12 + k) = p)) k))), some (.int (nI k))] [] (G, (mI A, j), cc) (.inl (some (.int (nI (cntN (fun k => decide (A 264 (12 + k) = p)) (A 264 3))))), (G, (mI A, j), cc)) := by
    refine up_ind (A 264 3) ?_ ?_
    · refine w264_4 hp263  ⟨by omega, ⟨by omega, ⟨fun c1 => ?_, fun c1 => ⟨by omega, ⟨by omega, ⟨by omega, ⟨fun c2 => ?_, fun c2 => ?_⟩⟩⟩⟩⟩⟩⟩
      · rfl
      · omega
      · omega
    · intro k hk ih
      have hp := okW_p p0 (k := k) (by omega)
      refine w264_4 hp263  ⟨by omega, ⟨by omega, ⟨fun c1 => ?_, fun c1 => ⟨by omega, ⟨by omega, ⟨by omega, ⟨fun c2 => ?_, fun c2 => ?_⟩⟩⟩⟩⟩⟩⟩
      · omega
      · have e : cntN (fun k => decide (A 264 (12 + k) = p)) (k + 1) = cntN (fun k => decide (A 264 (12 + k) = p)) k + 0 := by show _ + _ = _; simp [c2]
        rw [e] at ih; exact ih
      · have e : cntN (fun k => decide (A 264 (12 + k) = p)) (k + 1) = cntN (fun k => decide (A 264 (12 + k) = p)) k + 1 := by show _ + _ = _; simp [c2]
        rw [e] at ih; exact ih
  exact w264 hp263 (L 0 (by omega))
theorem w200 {X : gv_X} {d : Nat} {G : gv_Sh} {A : Nat → Nat → Nat} {j : Nat → Nat → Int64} {cc : gv_Rs} {r : gv_O × gv_S}  (hp263 : oX12 G 263) (H : Ev X (d + 0) gvm_200 2 [some (.ref 263), some (.int (nI 0))] [] (G, (mI A, j), cc) r) : Ev X (d + 0) gvm_200 0 (gv_enter [.ref 263] 2) [] (G, (mI A, j), cc) r :=
  (en_iconst rfl rfl   (ev_istore_n rfl rfl   H))
theorem w200_2 {X : gv_X} {d : Nat} {G : gv_Sh} {A : Nat → Nat → Nat} {j : Nat → Nat → Int64} {cc : gv_Rs} {r : gv_O × gv_S} {l1 : Nat} (hp263 : oX12 G 263) (H : (l1 < 2147483648) ∧ (((368 ≤ l1) → r = (.inl none, (G, (mI A, j), cc))) ∧ ((l1 < 368) → (l1 < 2066) ∧ ((l1 < 368) ∧ (Ev X (d + 0) gvm_200 2 [some (.ref 263), some (.int (nI (l1 + 1)))] [] (G, (mI (gu A 267 l1 (A 264 l1)), j), cc) r))))) : Ev X (d + 0) gvm_200 2 [some (.ref 263), some (.int (nI l1))] [] (G, (mI A, j), cc) r :=
  (ev_iload_n rfl rfl   (en_sipush rfl rfl   (en_ic_ge rfl H.1 (by decide) (fun c1 => (ev_vret rfl (H.2.1 c1))) (fun c1 => (ev_aload_n rfl rfl   (ev_getP rfl rfl (oX12_k hp263) (oX12_4 hp263)   (ev_iload_n rfl rfl   (ev_aload_n rfl rfl   (ev_getP rfl rfl (oX12_k hp263) (oX12_1 hp263)   (ev_iload_n rfl rfl   (en_iald rfl (oX12_1c hp263) (by decide) (H.2.2 c1).1 rfl (en_iast rfl (oX12_4c hp263) (by decide) (H.2.2 c1).2.1  (en_iinc rfl rfl rfl rfl   (ev_goto rfl (H.2.2 c1).2.2))))))))))))))
theorem r_keepsAll {X : gv_X} {d : Nat} {G : gv_Sh} {A : Nat → Nat → Nat} {j : Nat → Nat → Int64} {cc : gv_Rs}  (hp263 : oX12 G 263)  : Ev X (d + 0) gvm_200 0 (gv_enter [.ref 263] 2) [] (G, (mI A, j), cc) (.inl none, (G, (mI (gw A 267 (cpN (A 264) (A 267) 368)), j), cc)) := by
  have L : ∀ k, k ≤ 368 → Ev X (d + 0) gvm_200 2 [some (.ref 263), some (.int (nI k))] [] (G, (mI (gw A 267 (cpN (A 264) (A 267) k)), j), cc) (.inl none, (G, (mI (gw A 267 (cpN (A 264) (A 267) 368)), j), cc)) := by
    refine up_ind 368 ?_ ?_
    · refine w200_2 hp263  ⟨by omega, ⟨fun c1 => ?_, fun c1 => ⟨by omega, ⟨by omega, ?_⟩⟩⟩⟩
      · rfl
      · omega
    · intro k hk ih
      refine w200_2 hp263  ⟨by omega, ⟨fun c1 => ?_, fun c1 => ⟨by omega, ⟨by omega, ?_⟩⟩⟩⟩
      · omega
      · have e : gw A 267 (cpN (A 264) (A 267) k) 264 k = A 264 k := gw_q (by decide) rfl
        rw [e, cpN_s]
        exact ih
  have h0 := L 0 (by omega)
  rw [cpN_0, gw_self] at h0
  exact w200 hp263 h0
theorem w201 {X : gv_X} {d : Nat} {G : gv_Sh} {A : Nat → Nat → Nat} {j : Nat → Nat → Int64} {cc : gv_Rs} {r : gv_O × gv_S}  (hp263 : oX12 G 263) (H : Ev X (d + 0) gvm_201 2 [some (.ref 263), some (.int (nI 0))] [] (G, (mI A, j), cc) r) : Ev X (d + 0) gvm_201 0 (gv_enter [.ref 263] 2) [] (G, (mI A, j), cc) r :=
  (en_iconst rfl rfl   (ev_istore_n rfl rfl   H))
theorem w201_2 {X : gv_X} {d : Nat} {G : gv_Sh} {A : Nat → Nat → Nat} {j : Nat → Nat → Int64} {cc : gv_Rs} {r : gv_O × gv_S} {l1 : Nat} (hp263 : oX12 G 263) (H : (l1 < 2147483648) ∧ (((368 ≤ l1) → r = (.inl none, (G, (mI A, j), cc))) ∧ ((l1 < 368) → (l1 < 368) ∧ ((l1 < 2066) ∧ (Ev X (d + 0) gvm_201 2 [some (.ref 263), some (.int (nI (l1 + 1)))] [] (G, (mI (gu A 264 l1 (A 267 l1)), j), cc) r))))) : Ev X (d + 0) gvm_201 2 [some (.ref 263), some (.int (nI l1))] [] (G, (mI A, j), cc) r :=
  (ev_iload_n rfl rfl   (en_sipush rfl rfl   (en_ic_ge rfl H.1 (by decide) (fun c1 => (ev_vret rfl (H.2.1 c1))) (fun c1 => (ev_aload_n rfl rfl   (ev_getP rfl rfl (oX12_k hp263) (oX12_1 hp263)   (ev_iload_n rfl rfl   (ev_aload_n rfl rfl   (ev_getP rfl rfl (oX12_k hp263) (oX12_4 hp263)   (ev_iload_n rfl rfl   (en_iald rfl (oX12_4c hp263) (by decide) (H.2.2 c1).1 rfl (en_iast rfl (oX12_1c hp263) (by decide) (H.2.2 c1).2.1  (en_iinc rfl rfl rfl rfl   (ev_goto rfl (H.2.2 c1).2.2))))))))))))))
theorem r_bringsBack {X : gv_X} {d : Nat} {G : gv_Sh} {A : Nat → Nat → Nat} {j : Nat → Nat → Int64} {cc : gv_Rs}  (hp263 : oX12 G 263)  : Ev X (d + 0) gvm_201 0 (gv_enter [.ref 263] 2) [] (G, (mI A, j), cc) (.inl none, (G, (mI (gw A 264 (cpN (A 267) (A 264) 368)), j), cc)) := by
  have L : ∀ k, k ≤ 368 → Ev X (d + 0) gvm_201 2 [some (.ref 263), some (.int (nI k))] [] (G, (mI (gw A 264 (cpN (A 267) (A 264) k)), j), cc) (.inl none, (G, (mI (gw A 264 (cpN (A 267) (A 264) 368)), j), cc)) := by
    refine up_ind 368 ?_ ?_
    · refine w201_2 hp263  ⟨by omega, ⟨fun c1 => ?_, fun c1 => ⟨by omega, ⟨by omega, ?_⟩⟩⟩⟩
      · rfl
      · omega
    · intro k hk ih
      refine w201_2 hp263  ⟨by omega, ⟨fun c1 => ?_, fun c1 => ⟨by omega, ⟨by omega, ?_⟩⟩⟩⟩
      · omega
      · have e : gw A 264 (cpN (A 267) (A 264) k) 267 k = A 267 k := gw_q (by decide) rfl
        rw [e, cpN_s]
        exact ih
  have h0 := L 0 (by omega)
  rw [cpN_0, gw_self] at h0
  exact w201 hp263 h0
