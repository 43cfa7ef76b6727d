/-! the bench is read -/
theorem baS_ok {t : Nat → Nat} {E : Nat} : ∀ {f : Nat} {R : Nat → Nat} {n i : Nat}, okW R → i ≤ E → (baS t E f R n i).1 = 4294967295 ∨ ((baS t E f R n i).1 ≤ n + f ∧ okW (baS t E f R n i).2.1)
  | 0, R, n, i, _, _ => Or.inl rfl
  | f + 1, R, n, i, h, hi => by
    unfold baS
    by_cases c1 : (bnS t E R n i).1 = true
    · rw [if_pos c1]
      have ok := bnS_ok h hi c1
      have bs := skB_b (t := t) (E := E) ok.2.1
      by_cases c2 : skB t E (bnS t E R n i).2.2.1 = E
      · rw [if_pos c2]; exact Or.inr ⟨show n + 1 ≤ n + (f + 1) by omega, ok.1⟩
      · rw [if_neg c2]
        by_cases c3 : t (skB t E (bnS t E R n i).2.2.1) = 59
        · rw [if_pos c3]
          cases baS_ok (t := t) (E := E) (f := f) (n := n + 1) (i := skB t E (bnS t E R n i).2.2.1 + 1) ok.1 (by omega) with
          | inl h => exact Or.inl h
          | inr h => exact Or.inr ⟨by have := h.1; omega, h.2⟩
        · rw [if_neg c3]; exact Or.inl rfl
    · rw [if_neg c1]; exact Or.inl rfl
theorem raB_ok {t : Nat → Nat} {L : Nat} {R : Nat → Nat} (h : okW R) : (raB t L R).1 = 4294967295 ∨ ((raB t L R).1 ≤ 15 ∧ okW (raB t L R).2.1) := by
  have bs := skB_b (t := t) (E := L) (Nat.zero_le _)
  unfold raB
  by_cases c : skB t L 0 = L
  · rw [if_pos c]; exact Or.inr ⟨show 0 ≤ 15 by decide, h⟩
  · rw [if_neg c]
    have z := baS_ok (t := t) (E := L) (f := 15) (n := 0) (i := skB t L 0) h bs.2
    rw [Nat.zero_add] at z
    exact z
def cpE (Z Q : Nat → Nat) (k : Nat) : Nat → Nat := fun i => if i < k then Q i else Z i
theorem cpE_0 (Z Q : Nat → Nat) : cpE Z Q 0 = Z := by
  funext i
  unfold cpE
  rw [if_neg (by omega)]
theorem cpE_s (Z Q : Nat → Nat) (k : Nat) : (fun i => if i = k then Q k else cpE Z Q k i) = cpE Z Q (k + 1) := by
  funext i
  unfold cpE
  by_cases e : i = k
  · subst e; rw [if_pos rfl, if_pos (by omega)]
  · rw [if_neg e]
    by_cases e2 : i < k
    · rw [if_pos e2, if_pos (by omega)]
    · rw [if_neg e2, if_neg (by omega)]
theorem cpE_l {Z Q : Nat → Nat} {k i : Nat} (h : i < k) : cpE Z Q k i = Q i := if_pos h
def beN (r : Nat × (Nat → Nat) × Nat × Nat) : Nat := if r.1 = 4294967295 then 0 else if r.2.1 1 = 12 then 0 else r.2.1 1 + 1
def benP (A B : Nat → Nat → Nat) (r : Nat × (Nat → Nat) × Nat × Nat) : Prop := frX A B ∧ (r.1 = 4294967295 → B 263 0 = 1 ∧ B 263 14 = r.2.2.2 ∧ B 263 7 = A 263 7 ∧ ∀ i, i < 1217 → B 264 i = A 264 i) ∧ (r.1 ≠ 4294967295 → r.2.1 1 = 12 → B 263 0 = 2 ∧ B 263 14 = 4294967295 ∧ B 263 7 = A 263 7 ∧ ∀ i, i < 1217 → B 264 i = A 264 i) ∧ (r.1 ≠ 4294967295 → r.2.1 1 ≠ 12 → B 263 0 = 0 ∧ B 263 14 = 4294967295 ∧ B 263 7 = 0 ∧ B 264 = boR (seR r.2.1 1 (r.2.1 1 + 1)))
theorem ben_rs {A C Y : Nat → Nat → Nat} {S : Nat → Nat} {p b v w : Nat} (hY : Y = gu (gu (rm (usM (gw A 266 (cpE (A 266) (A 264) 1217))) S p b) 263 14 v) 263 0 w) (hC : C = gw Y 264 (cpE (Y 264) (Y 266) 1217)) : frX A C ∧ C 263 0 = w ∧ C 263 14 = v ∧ C 263 7 = A 263 7 ∧ ∀ i, i < 1217 → C 264 i = A 264 i := by
  have y6 : Y 266 = cpE (A 266) (A 264) 1217 := by rw [hY, gu_ne (by decide), gu_ne (by decide), rm_q (by decide) (by decide), usM_q (by decide), gw_at]
  have f : ∀ k, k ≠ 10 → k ≠ 12 → C 263 k = if k = 0 then w else if k = 14 then v else if k = 16 then 0 else if k = 9 then 0 else if k = 11 then A 263 9 else A 263 k := by
    intro k h1 h2
    rw [hC, gw_row (by decide), hY, gu_at]
    show (if k = 0 then w else gu (rm (usM (gw A 266 (cpE (A 266) (A 264) 1217))) S p b) 263 14 v 263 k) = _
    rw [gu_at]
    show (if k = 0 then w else if k = 14 then v else rm (usM (gw A 266 (cpE (A 266) (A 264) 1217))) S p b 263 k) = _
    rw [rm_k h1 h2, usM_f, gw_row (by decide), if_neg h1]
    by_cases c : k = 0
    · rw [if_pos c, if_pos c]
    · rw [if_neg c, if_neg c, if_neg c]
  refine ⟨⟨fun q a b' c => ?_, fun k a0 a7 a9 a10 a11 a12 a13 a14 a16 => ?_, ?_⟩, ?_, ?_, ?_, fun i hi => ?_⟩
  · rw [hC, gw_row b', hY, gu_ne a, gu_ne a, rm_q a b', usM_q a, gw_row c]
  · rw [f k a10 a12, if_neg a0, if_neg a14, if_neg a16, if_neg a9, if_neg a11]
  · rw [f 9 (by decide) (by decide)]; rfl
  · rw [f 0 (by decide) (by decide)]; rfl
  · rw [f 14 (by decide) (by decide)]; rfl
  · rw [f 7 (by decide) (by decide)]; rfl
  · rw [hC, gw_at, cpE_l hi, y6, cpE_l hi]
theorem ben_yes {A Z B : Nat → Nat → Nat} {S : Nat → Nat} {p b : Nat} (hZ : Z = gu (rm (usM (gw A 266 (cpE (A 266) (A 264) 1217))) S p b) 263 14 4294967295) (hB : B = gu (gw (gu Z 264 1 (Z 264 1 + 1)) 264 (boR ((gu Z 264 1 (Z 264 1 + 1)) 264))) 263 7 0) : frX A B ∧ B 263 0 = 0 ∧ B 263 14 = 4294967295 ∧ B 263 7 = 0 ∧ B 264 = boR (seR S 1 (S 1 + 1)) := by
  have z4 : Z 264 = S := by rw [hZ, gu_ne (by decide), rm_4]
  have f : ∀ k, k ≠ 10 → k ≠ 12 → B 263 k = if k = 7 then 0 else if k = 14 then 4294967295 else if k = 16 then 0 else if k = 9 then 0 else if k = 11 then A 263 9 else if k = 0 then 0 else A 263 k := by
    intro k h1 h2
    rw [hB, gu_at]
    show (if k = 7 then 0 else gw (gu Z 264 1 (Z 264 1 + 1)) 264 (boR ((gu Z 264 1 (Z 264 1 + 1)) 264)) 263 k) = _
    rw [gw_row (by decide), gu_ne (by decide), hZ, gu_at]
    show (if k = 7 then 0 else if k = 14 then 4294967295 else rm (usM (gw A 266 (cpE (A 266) (A 264) 1217))) S p b 263 k) = _
    rw [rm_k h1 h2, usM_f, gw_row (by decide), if_neg h1]
  refine ⟨⟨fun q a b' c => ?_, fun k a0 a7 a9 a10 a11 a12 a13 a14 a16 => ?_, ?_⟩, ?_, ?_, ?_, ?_⟩
  · rw [hB, gu_ne a, gw_row b', gu_ne b', hZ, gu_ne a, rm_q a b', usM_q a, gw_row c]
  · rw [f k a10 a12, if_neg a7, if_neg a14, if_neg a16, if_neg a9, if_neg a11, if_neg a0]
  · rw [f 9 (by decide) (by decide)]; rfl
  · rw [f 0 (by decide) (by decide)]; rfl
  · rw [f 14 (by decide) (by decide)]; rfl
  · rw [f 7 (by decide) (by decide)]; rfl
  · rw [hB, gu_ne (by decide), gw_at, gu_at, z4]; rfl
theorem w244 {X : gv_X} {d : Nat} {G : gv_Sh} {A : Nat → Nat → Nat} {j : Nat → Nat → Int64} {cc : gv_Rs} {P : gv_O × gv_S → Prop}  (hp263 : oX12 G 263) (H : EvP X (d + 30) gvm_244 2 [some (.ref 263), some (.int (nI 0)), none] [] (G, (mI A, j), cc) P) : EvP X (d + 30) gvm_244 0 (gv_enter [.ref 263] 3) [] (G, (mI A, j), cc) P :=
  (pn_iconst rfl rfl   (pv_istore_n rfl rfl   H))
theorem w244_2 {X : gv_X} {d : Nat} {G : gv_Sh} {A : Nat → Nat → Nat} {j : Nat → Nat → Int64} {cc : gv_Rs} {P : gv_O × gv_S → Prop} {l1 : Nat} (hp263 : oX12 G 263) (H : (l1 < 2147483648) ∧ (((1217 ≤ l1) → EvP X (d + 30) gvm_244 27 [some (.ref 263), some (.int (nI l1)), none] [] (G, (mI A, j), cc) P) ∧ ((l1 < 1217) → (l1 < 2066) ∧ ((l1 < 1217) ∧ (EvP X (d + 30) gvm_244 2 [some (.ref 263), some (.int (nI (l1 + 1))), none] [] (G, (mI (gu A 266 l1 (A 264 l1)), j), cc) P))))) : EvP X (d + 30) gvm_244 2 [some (.ref 263), some (.int (nI l1)), none] [] (G, (mI A, j), cc) P :=
  (pv_iload_n rfl rfl   (pn_sipush rfl rfl   (pn_ic_ge rfl H.1 (by decide) (fun c1 => (H.2.1 c1)) (fun c1 => (pv_aload_n rfl rfl   (pv_getP rfl rfl (oX12_k hp263) (oX12_3 hp263)   (pv_iload_n rfl rfl   (pv_aload_n rfl rfl   (pv_getP rfl rfl (oX12_k hp263) (oX12_1 hp263)   (pv_iload_n rfl rfl   (pn_iald rfl (oX12_1c hp263) (by decide) (H.2.2 c1).1 rfl (pn_iast rfl (oX12_3c hp263) (by decide) (H.2.2 c1).2.1  (pn_iinc rfl rfl rfl rfl   (pv_goto rfl (H.2.2 c1).2.2))))))))))))))
theorem w244_27 {X : gv_X} {d : Nat} {G : gv_Sh} {A : Nat → Nat → Nat} {j : Nat → Nat → Int64} {cc : gv_Rs} {P : gv_O × gv_S → Prop} {l1 : Nat} (hp263 : oX12 G 263) (H : (A 263 9 ≤ 400) ∧ ((∀ i, i < 400 → A 269 i < 4294967296) ∧ ((okW (A 264)) ∧ ((∀ A1v1 : Nat → Nat → Nat, ((raP true A A1v1)) → ((raN true (A 269) (A 263 9) (A 264)) < 4294967296) ∧ ((((raN true (A 269) (A 263 9) (A 264)) < 2147483648) → ((raN true (A 269) (A 263 9) (A 264)) < 4294967296) ∧ ((((raN true (A 269) (A 263 9) (A 264)) < 2147483648) → EvP X (d + 30) gvm_244 66 [some (.ref 263), some (.int (nI (raN true (A 269) (A 263 9) (A 264)))), none] [] (G, (mI (gu A1v1 263 14 4294967295), j), cc) P) ∧ ((2147483648 ≤ (raN true (A 269) (A 263 9) (A 264))) → EvP X (d + 30) gvm_244 90 [some (.ref 263), some (.int (nI (raN true (A 269) (A 263 9) (A 264)))), none] [] (G, (mI (gu (gu A1v1 263 14 4294967295) 263 0 1), j), cc) P))) ∧ ((2147483648 ≤ (raN true (A 269) (A 263 9) (A 264))) → ((raN true (A 269) (A 263 9) (A 264)) < 4294967296) ∧ ((((raN true (A 269) (A 263 9) (A 264)) < 2147483648) → EvP X (d + 30) gvm_244 66 [some (.ref 263), some (.int (nI (raN true (A 269) (A 263 9) (A 264)))), none] [] (G, (mI (gu A1v1 263 14 (A1v1 263 12)), j), cc) P) ∧ ((2147483648 ≤ (raN true (A 269) (A 263 9) (A 264))) → EvP X (d + 30) gvm_244 90 [some (.ref 263), some (.int (nI (raN true (A 269) (A 263 9) (A 264)))), none] [] (G, (mI (gu (gu A1v1 263 14 (A1v1 263 12)) 263 0 1), j), cc) P))))))))) : EvP X (d + 30) gvm_244 27 [some (.ref 263), some (.int (nI l1)), none] [] (G, (mI A, j), cc) P :=
  (pv_aload_n rfl rfl   (pn_iconst rfl rfl   (match (r_readAll (b := true) (A := A) (X := X) (d := d + 0) (G := G) (j := j) (cc := cc) hp263 H.1 H.2.1 H.2.2.1 ) with | ⟨A1v1, e1x29, h1⟩ => pv_virt rfl rfl rfl rfl rfl (oX12_k hp263) rfl rfl rfl e1x29 (pv_istore_n rfl rfl   (pv_aload_n rfl rfl   (pv_iload_n rfl rfl   (pn_if_ge rfl (H.2.2.2 A1v1 h1).1 (fun c2 => (pn_iconst (u := 4294967295) rfl (by decide)   (pn_putI rfl rfl (oX12_k hp263)   (pv_aload_n rfl rfl   (pv_iload_n rfl rfl   (pn_if_ge rfl ((H.2.2.2 A1v1 h1).2.1 c2).1 (fun c3 => (pn_iconst rfl rfl   (pn_iconst rfl rfl   (pv_virt rfl rfl rfl rfl rfl (oX12_k hp263) rfl rfl rfl (r_thr_f (b := false) (c := 1) (A := (gu A1v1 263 14 4294967295)) hp263 rfl) (pn_if_ne rfl (by decide) (fun e => absurd e (by decide)) (fun _ => (((H.2.2.2 A1v1 h1).2.1 c2).2.1 c3))))))) (fun c3 => (pn_iconst rfl rfl   (pv_goto rfl (pn_iconst rfl rfl   (pv_virt rfl rfl rfl rfl rfl (oX12_k hp263) rfl rfl rfl (r_thr_t (b := true) (c := 1) (A := (gu A1v1 263 14 4294967295)) hp263 rfl) (pn_if_ne rfl (by decide) (fun _ => (((H.2.2.2 A1v1 h1).2.1 c2).2.2 c3)) (fun e => absurd e (by decide)))))))))))))) (fun c2 => (pv_aload_n rfl rfl   (pn_getI rfl rfl (oX12_k hp263) rfl   (pv_goto rfl (pn_putI rfl rfl (oX12_k hp263)   (pv_aload_n rfl rfl   (pv_iload_n rfl rfl   (pn_if_ge rfl ((H.2.2.2 A1v1 h1).2.2 c2).1 (fun c6 => (pn_iconst rfl rfl   (pn_iconst rfl rfl   (pv_virt rfl rfl rfl rfl rfl (oX12_k hp263) rfl rfl rfl (r_thr_f (b := false) (c := 1) (A := (gu A1v1 263 14 (A1v1 263 12))) hp263 rfl) (pn_if_ne rfl (by decide) (fun e => absurd e (by decide)) (fun _ => (((H.2.2.2 A1v1 h1).2.2 c2).2.1 c6))))))) (fun c6 => (pn_iconst rfl rfl   (pv_goto rfl (pn_iconst rfl rfl   (pv_virt rfl rfl rfl rfl rfl (oX12_k hp263) rfl rfl rfl (r_thr_t (b := true) (c := 1) (A := (gu A1v1 263 14 (A1v1 263 12))) hp263 rfl) (pn_if_ne rfl (by decide) (fun _ => (((H.2.2.2 A1v1 h1).2.2 c2).2.2 c6)) (fun e => absurd e (by decide)))))))))))))))))))))))
theorem w244_66 {X : gv_X} {d : Nat} {G : gv_Sh} {A : Nat → Nat → Nat} {j : Nat → Nat → Int64} {cc : gv_Rs} {P : gv_O × gv_S → Prop} {l1 : Nat} (hp263 : oX12 G 263) (H : ((A 264 1) < 4294967296) ∧ (((¬ (A 264 1) = 12) → EvP X (d + 30) gvm_244 119 [some (.ref 263), some (.int (nI l1)), none] [] (G, (mI A, j), cc) P) ∧ (((A 264 1) = 12) → EvP X (d + 30) gvm_244 90 [some (.ref 263), some (.int (nI l1)), none] [] (G, (mI (gu A 263 0 2), j), cc) P))) : EvP X (d + 30) gvm_244 66 [some (.ref 263), some (.int (nI l1)), none] [] (G, (mI A, j), cc) P :=
  (pv_aload_n rfl rfl   (pv_aload_n rfl rfl   (pv_getP rfl rfl (oX12_k hp263) (oX12_1 hp263)   (pn_iconst rfl rfl   (pn_iald rfl (oX12_1c hp263) (by decide) (by decide) rfl (pn_bipush rfl rfl   (pn_ic_ne rfl H.1 (by decide) (fun c1 => (pn_iconst rfl rfl   (pn_iconst rfl rfl   (pv_virt rfl rfl rfl rfl rfl (oX12_k hp263) rfl rfl rfl (r_thr_f (b := false) (c := 2) (A := A) hp263 rfl) (pn_if_eq rfl (by decide) (fun _ => (H.2.1 c1)) (fun e => absurd e (by decide))))))) (fun c1 => (pn_iconst rfl rfl   (pv_goto rfl (pn_iconst rfl rfl   (pv_virt rfl rfl rfl rfl rfl (oX12_k hp263) rfl rfl rfl (r_thr_t (b := true) (c := 2) (A := A) hp263 rfl) (pn_if_eq rfl (by decide) (fun e => absurd e (by decide)) (fun _ => (H.2.2 c1)))))))))))))))
theorem w244_90 {X : gv_X} {d : Nat} {G : gv_Sh} {A : Nat → Nat → Nat} {j : Nat → Nat → Int64} {cc : gv_Rs} {P : gv_O × gv_S → Prop} {l1 : Nat} (hp263 : oX12 G 263) (H : EvP X (d + 30) gvm_244 92 [some (.ref 263), some (.int (nI l1)), some (.int (nI 0))] [] (G, (mI A, j), cc) P) : EvP X (d + 30) gvm_244 90 [some (.ref 263), some (.int (nI l1)), none] [] (G, (mI A, j), cc) P :=
  (pn_iconst rfl rfl   (pv_istore_n rfl rfl   H))
theorem w244_92 {X : gv_X} {d : Nat} {G : gv_Sh} {A : Nat → Nat → Nat} {j : Nat → Nat → Int64} {cc : gv_Rs} {P : gv_O × gv_S → Prop} {l1 : Nat} {l2 : Nat} (hp263 : oX12 G 263) (H : (l2 < 2147483648) ∧ (((1217 ≤ l2) → P (.inl (some (.int (nI 0))), (G, (mI A, j), cc))) ∧ ((l2 < 1217) → (l2 < 1217) ∧ ((l2 < 2066) ∧ (EvP X (d + 30) gvm_244 92 [some (.ref 263), some (.int (nI l1)), some (.int (nI (l2 + 1)))] [] (G, (mI (gu A 264 l2 (A 266 l2)), j), cc) P))))) : EvP X (d + 30) gvm_244 92 [some (.ref 263), some (.int (nI l1)), some (.int (nI l2))] [] (G, (mI A, j), cc) P :=
  (pv_iload_n rfl rfl   (pn_sipush rfl rfl   (pn_ic_ge rfl H.1 (by decide) (fun c1 => (pn_iconst rfl rfl   (pv_ireti rfl rfl (H.2.1 c1)))) (fun c1 => (pv_aload_n rfl rfl   (pv_getP rfl rfl (oX12_k hp263) (oX12_1 hp263)   (pv_iload_n rfl rfl   (pv_aload_n rfl rfl   (pv_getP rfl rfl (oX12_k hp263) (oX12_3 hp263)   (pv_iload_n rfl rfl   (pn_iald rfl (oX12_3c hp263) (by decide) (H.2.2 c1).1 rfl (pn_iast rfl (oX12_1c hp263) (by decide) (H.2.2 c1).2.1  (pn_iinc rfl rfl rfl rfl   (pv_goto rfl (H.2.2 c1).2.2))))))))))))))
theorem w244_119 {X : gv_X} {d : Nat} {G : gv_Sh} {A : Nat → Nat → Nat} {j : Nat → Nat → Int64} {cc : gv_Rs} {P : gv_O × gv_S → Prop} {l1 : Nat} (hp263 : oX12 G 263) (H : (∀ A1 : Nat → Nat → Nat, A1 = (gw (gu A 264 1 ((A 264 1) + 1)) 264 (boR ((gu A 264 1 ((A 264 1) + 1)) 264))) → P (.inl (some (.int (nI (A1 264 1)))), (G, (mI (gu A1 263 7 0), j), cc)))) : EvP X (d + 30) gvm_244 119 [some (.ref 263), some (.int (nI l1)), none] [] (G, (mI A, j), cc) P :=
  (pv_aload_n rfl rfl   (pv_getP rfl rfl (oX12_k hp263) (oX12_1 hp263)   (pn_iconst rfl rfl   (pv_dup2 rfl rfl   (pn_iald rfl (oX12_1c hp263) (by decide) (by decide) rfl (pn_iconst rfl rfl   (pn_iadd rfl   (pn_iast rfl (oX12_1c hp263) (by decide) (by decide)  (pv_aload_n rfl rfl   (match (⟨(gw (gu A 264 1 ((A 264 1) + 1)) 264 (boR ((gu A 264 1 ((A 264 1) + 1)) 264))), rfl⟩ : ∃ Z : Nat → Nat → Nat, Z = (gw (gu A 264 1 ((A 264 1) + 1)) 264 (boR ((gu A 264 1 ((A 264 1) + 1)) 264)))) with | ⟨A1, q1⟩ => pv_virt rfl rfl rfl rfl rfl (oX12_k hp263) rfl rfl rfl (ev_eqM q1 (r_bothBoot (A := (gu A 264 1 ((A 264 1) + 1))) hp263 )) (pv_aload_n rfl rfl   (pn_iconst rfl rfl   (pn_putI rfl rfl (oX12_k hp263)   (pv_aload_n rfl rfl   (pv_getP rfl rfl (oX12_k hp263) (oX12_1 hp263)   (pn_iconst rfl rfl   (pn_iald rfl (oX12_1c hp263) (by decide) (by decide) (gu_q (by omega) rfl) (pv_ireti rfl rfl (H A1 q1)))))))))))))))))))
theorem be_cp {X : gv_X} {d : Nat} {G : gv_Sh} {j : Nat → Nat → Int64} {cc : gv_Rs} {P : gv_O × gv_S → Prop} (hp263 : oX12 G 263) {A : Nat → Nat → Nat} (hP : EvP X (d + 30) gvm_244 27 [some (.ref 263), some (.int (nI 1217)), none] [] (G, (mI (gw A 266 (cpE (A 266) (A 264) 1217)), j), cc) P) : ∀ k l, l + k = 1217 → EvP X (d + 30) gvm_244 2 [some (.ref 263), some (.int (nI l)), none] [] (G, (mI (gw A 266 (cpE (A 266) (A 264) l)), j), cc) P := by
  intro k
  induction k with
  | zero =>
    intro l hl
    obtain rfl : l = 1217 := by omega
    exact w244_2 hp263 ⟨by omega, fun c1 => hP, fun c1 => absurd c1 (by omega)⟩
  | succ k ih =>
    intro l hl
    refine w244_2 hp263 ⟨by omega, fun c1 => absurd c1 (by omega), fun c1 => ⟨by omega, by omega, ?_⟩⟩
    have h := ih (l + 1) (by omega)
    rw [← cpE_s] at h
    rw [gu_gwr, gw_row (by decide)]
    exact h
theorem be_rs {X : gv_X} {d : Nat} {G : gv_Sh} {j : Nat → Nat → Int64} {cc : gv_Rs} {P : gv_O × gv_S → Prop} (hp263 : oX12 G 263) {Y : Nat → Nat → Nat} {m : Nat} (hP : P (.inl (some (.int (nI 0))), (G, (mI (gw Y 264 (cpE (Y 264) (Y 266) 1217)), j), cc))) : ∀ k l, l + k = 1217 → EvP X (d + 30) gvm_244 92 [some (.ref 263), some (.int (nI m)), some (.int (nI l))] [] (G, (mI (gw Y 264 (cpE (Y 264) (Y 266) l)), j), cc) P := by
  intro k
  induction k with
  | zero =>
    intro l hl
    obtain rfl : l = 1217 := by omega
    exact w244_92 hp263 ⟨by omega, fun c1 => hP, fun c1 => absurd c1 (by omega)⟩
  | succ k ih =>
    intro l hl
    refine w244_92 hp263 ⟨by omega, fun c1 => absurd c1 (by omega), fun c1 => ⟨by omega, by omega, ?_⟩⟩
    have h := ih (l + 1) (by omega)
    rw [← cpE_s] at h
    rw [gu_gwr, gw_row (by decide)]
    exact h
theorem boR_i1 (R : Nat → Nat) : boR R 1 = R 1 := by
  unfold boR boN
  rw [if_neg (by omega)]
theorem r_bench_p {X : gv_X} {d : Nat} {G : gv_Sh} {A : Nat → Nat → Nat} {j : Nat → Nat → Int64} {cc : gv_Rs} {P : gv_O × gv_S → Prop}  (hp263 : oX12 G 263) (p0 : A 263 9 ≤ 400) (p1 : ∀ i, i < 400 → A 269 i < 4294967296) (p2 : okW (A 264)) (hP : ∀ A1 : Nat → Nat → Nat, (benP A A1 (raB (A 269) (A 263 9) (A 264))) → P (.inl (some (.int (nI (beN (raB (A 269) (A 263 9) (A 264)))))), (G, (mI A1, j), cc))) : EvP X (d + 30) gvm_244 0 (gv_enter [.ref 263] 3) [] (G, (mI A, j), cc) P := by
  have hl := raB_ok (t := (A 269)) (L := (A 263 9)) p2
  have e1 : raN true (A 269) (A 263 9) (A 264) = (raB (A 269) (A 263 9) (A 264)).1 := if_pos rfl
  have k9 : (gw A 266 (cpE (A 266) (A 264) 1217)) 269 = (A 269) := gw_row (by decide)
  have k3 : (gw A 266 (cpE (A 266) (A 264) 1217)) 263 = A 263 := gw_row (by decide)
  have k4 : (gw A 266 (cpE (A 266) (A 264) 1217)) 264 = (A 264) := gw_row (by decide)
  refine w244 hp263 ?_
  have z := be_cp (X := X) (d := d) (G := G) (j := j) (cc := cc) (P := P) hp263 (A := A) ?_ 1217 0 rfl
  · rw [cpE_0, gw_self] at z
    exact z
  refine w244_27 hp263 ⟨by rw [k3]; exact p0, by rw [k9]; exact p1, by rw [k4]; exact p2, fun A1 h1 => ?_⟩
  have h := h1.1 rfl
  rw [k9, k3, k4] at h ⊢
  rw [e1]
  have N : ∀ v w m, (∀ C, frX A C ∧ C 263 0 = w ∧ C 263 14 = v ∧ C 263 7 = A 263 7 ∧ (∀ i, i < 1217 → C 264 i = A 264 i) → P (.inl (some (.int (nI 0))), (G, (mI C, j), cc))) → EvP X (d + 30) gvm_244 90 [some (.ref 263), some (.int (nI m)), none] [] (G, (mI (gu (gu A1 263 14 v) 263 0 w), j), cc) P := by
    intro v w m hc
    refine w244_90 hp263 ?_
    obtain ⟨Y, hY⟩ : ∃ Y, Y = gu (gu A1 263 14 v) 263 0 w := ⟨_, rfl⟩
    have hY2 := hY
    rw [h] at hY2
    have z2 := be_rs (X := X) (d := d) (G := G) (j := j) (cc := cc) (P := P) hp263 (Y := Y) (m := m) (hc _ (ben_rs hY2 rfl)) 1217 0 rfl
    rw [cpE_0, gw_self] at z2
    rw [← hY]
    exact z2
  have Y : (raB (A 269) (A 263 9) (A 264)).1 ≠ 4294967295 → EvP X (d + 30) gvm_244 66 [some (.ref 263), some (.int (nI (raB (A 269) (A 263 9) (A 264)).1)), none] [] (G, (mI (gu A1 263 14 4294967295), j), cc) P := by
    intro ne
    have ok : okW (raB (A 269) (A 263 9) (A 264)).2.1 := by
      cases hl with
      | inl z => exact absurd z ne
      | inr z => exact z.2
    have a4 : gu A1 263 14 4294967295 264 = (raB (A 269) (A 263 9) (A 264)).2.1 := by rw [gu_ne (by decide), h, rm_4]
    have nn := okW_n ok
    refine w244_66 hp263 ?_
    rw [a4]
    refine ⟨by omega, fun c1 => ?_, fun c1 => ?_⟩
    · have en : beN (raB (A 269) (A 263 9) (A 264)) = (raB (A 269) (A 263 9) (A 264)).2.1 1 + 1 := by unfold beN; rw [if_neg ne, if_neg c1]
      refine w244_119 hp263 (fun A2 q2 => ?_)
      obtain ⟨Z, hZ⟩ : ∃ Z, Z = gu A1 263 14 4294967295 := ⟨_, rfl⟩
      rw [← hZ] at q2
      rw [h] at hZ
      have y := ben_yes hZ rfl
      rw [← q2] at y
      have y4 : A2 264 1 = (raB (A 269) (A 263 9) (A 264)).2.1 1 + 1 := by
        have := y.2.2.2.2
        rw [gu_ne (by decide)] at this
        rw [this, boR_i1, seR_at]
      rw [y4, ← en]
      exact hP _ ⟨y.1, fun z => absurd z ne, fun _ z => absurd z c1, fun _ _ => y.2⟩
    · have en : beN (raB (A 269) (A 263 9) (A 264)) = 0 := by unfold beN; rw [if_neg ne, if_pos c1]
      rw [en] at hP
      exact N 4294967295 2 _ (fun C hC => hP C ⟨hC.1, fun z => absurd z ne, fun _ _ => hC.2, fun _ z => absurd c1 z⟩)
  refine ⟨by omega, fun c2 => ⟨by omega, fun c3 => Y (by omega), fun c3 => absurd c3 (by omega)⟩, fun c2 => ⟨by omega, fun c3 => absurd c3 (by omega), fun c3 => ?_⟩⟩
  have ne : (raB (A 269) (A 263 9) (A 264)).1 = 4294967295 := by omega
  have en : beN (raB (A 269) (A 263 9) (A 264)) = 0 := if_pos ne
  rw [en] at hP
  have b12 : A1 263 12 = (raB (A 269) (A 263 9) (A 264)).2.2.2 := by rw [h, rm_b]
  refine N _ 1 _ (fun C hC => hP C ⟨hC.1, fun _ => ?_, fun z => absurd ne z, fun z => absurd ne z⟩)
  rw [← b12]
  exact hC.2
theorem r_bench {X : gv_X} {d : Nat} {G : gv_Sh} {A : Nat → Nat → Nat} {j : Nat → Nat → Int64} {cc : gv_Rs}  (hp263 : oX12 G 263) (p0 : A 263 9 ≤ 400) (p1 : ∀ i, i < 400 → A 269 i < 4294967296) (p2 : okW (A 264)) : ∃ A1 : Nat → Nat → Nat, Ev X (d + 30) gvm_244 0 (gv_enter [.ref 263] 3) [] (G, (mI A, j), cc) (.inl (some (.int (nI (beN (raB (A 269) (A 263 9) (A 264)))))), (G, (mI A1, j), cc)) ∧ (benP A A1 (raB (A 269) (A 263 9) (A 264))) := by
  obtain ⟨_, h, A1, rfl, hp⟩ := r_bench_p (X := X) (d := d) (G := G) (A := A) (j := j) (cc := cc)  (P := fun r => ∃ A1 : Nat → Nat → Nat, r = (.inl (some (.int (nI (beN (raB (A 269) (A 263 9) (A 264)))))), (G, (mI A1, j), cc)) ∧ (benP A A1 (raB (A 269) (A 263 9) (A 264)))) hp263 p0 p1 p2 (fun A1 h => ⟨A1, rfl, h⟩)
  exact ⟨A1, h, hp⟩
