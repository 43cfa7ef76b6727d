/-! the law is read -/
theorem laS_le {t : Nat → Nat} {E : Nat} : ∀ {f : Nat} {R : Nat → Nat} {n c i : Nat}, (laS t E f R n c i).1 = 4294967295 ∨ (laS t E f R n c i).1 ≤ n + f
  | 0, R, n, c, i => Or.inl rfl
  | f + 1, R, n, c, i => by
    unfold laS
    by_cases c1 : (lnS t E n i).1 = true
    · rw [if_pos c1]
      by_cases c2 : skB t E (lnS t E n i).2.2.2.1 = E
      · rw [if_pos c2]; exact Or.inr (show n + 1 ≤ n + (f + 1) by omega)
      · rw [if_neg c2]
        by_cases c3 : t (skB t E (lnS t E n i).2.2.2.1) = 59
        · rw [if_pos c3]
          have h := laS_le (t := t) (E := E) (f := f) (R := llR R n (lnS t E n i).2.1.1 (lnS t E n i).2.1.2 c (lnS t E n i).2.2.1) (n := n + 1) (c := c + (lnS t E n i).2.2.1.length) (i := skB t E (lnS t E n i).2.2.2.1 + 1)
          omega
        · rw [if_neg c3]; exact Or.inl rfl
    · rw [if_neg c1]; exact Or.inl rfl
theorem raL_le (t : Nat → Nat) (L : Nat) (R : Nat → Nat) : (raL t L R).1 = 4294967295 ∨ (raL t L R).1 ≤ 13 := by
  unfold raL
  by_cases c : skB t L 0 = L
  · rw [if_pos c]; exact Or.inr (show 0 ≤ 13 by decide)
  · rw [if_neg c]
    have h := laS_le (t := t) (E := L) (f := 13) (R := R) (n := 0) (c := 0) (i := skB t L 0)
    omega
def cpL (Q : Nat → Nat) (k : Nat) : Nat → Nat := fun i => if 368 ≤ i ∧ i < 368 + k then Q (i + 849) else Q i
theorem cpL_0 (Q : Nat → Nat) : cpL Q 0 = Q := by
  funext i
  unfold cpL
  rw [if_neg (by omega)]
theorem cpL_s {Q : Nat → Nat} {k : Nat} (hk : k < 849) : seR (cpL Q k) (368 + k) (cpL Q k (1217 + k)) = cpL Q (k + 1) := by
  funext i
  unfold seR cpL
  rw [if_neg (show ¬ (368 ≤ 1217 + k ∧ 1217 + k < 368 + k) by omega)]
  by_cases e : i = 368 + k
  · subst e
    rw [if_pos rfl, if_pos (by omega)]
    congr 1
    omega
  · rw [if_neg e]
    by_cases e2 : 368 ≤ i ∧ i < 368 + k
    · rw [if_pos e2, if_pos (by omega)]
    · rw [if_neg e2, if_neg (by omega)]
def frX (A B : Nat → Nat → Nat) : Prop := (∀ q, q ≠ 263 → q ≠ 264 → q ≠ 266 → B q = A q) ∧ (∀ k, k ≠ 0 → k ≠ 7 → k ≠ 9 → k ≠ 10 → k ≠ 11 → k ≠ 12 → k ≠ 13 → k ≠ 14 → k ≠ 16 → B 263 k = A 263 k) ∧ B 263 9 = 0
def lwR (r : Nat × (Nat → Nat) × Nat × Nat × Nat) : Nat → Nat := fun i => if i = 2 then 1 else if i = 368 then r.1 else if 368 ≤ i then r.2.1 (i + 849) else r.2.1 i
def lwN (t : Nat → Nat) (L : Nat) (R : Nat → Nat) : Nat := if (raL t L R).1 = 4294967295 then 0 else (raL t L R).1
def lawP (A B : Nat → Nat → Nat) (r : Nat × (Nat → Nat) × Nat × Nat × Nat) : Prop := frX A B ∧ (r.1 = 4294967295 → B 263 0 = 1 ∧ B 263 14 = r.2.2.2.2 ∧ B 263 7 = A 263 7 ∧ ∀ i, i < 1217 → B 264 i = A 264 i) ∧ (r.1 ≠ 4294967295 → B 263 0 = 0 ∧ B 263 14 = 4294967295 ∧ B 263 7 = 0 ∧ ∀ i, i < 1217 → B 264 i = lwR r i)
theorem w245 {X : gv_X} {d : Nat} {G : gv_Sh} {A : Nat → Nat → Nat} {j : Nat → Nat → Int64} {cc : gv_Rs} {P : gv_O × gv_S → Prop}  (hp263 : oX12 G 263) (H : (A 263 9 ≤ 400) ∧ ((∀ i, i < 400 → A 269 i < 4294967296) ∧ ((okW (A 264)) ∧ ((∀ A1v1 : Nat → Nat → Nat, ((raP false A A1v1)) → ((raN false (A 269) (A 263 9) (A 264)) < 4294967296) ∧ ((((raN false (A 269) (A 263 9) (A 264)) < 2147483648) → ((raN false (A 269) (A 263 9) (A 264)) < 4294967296) ∧ ((((raN false (A 269) (A 263 9) (A 264)) < 2147483648) → EvP X (d + 30) gvm_245 41 [some (.ref 263), some (.int (nI (raN false (A 269) (A 263 9) (A 264)))), none] [] (G, (mI (gu A1v1 263 14 4294967295), j), cc) P) ∧ ((2147483648 ≤ (raN false (A 269) (A 263 9) (A 264))) → P (.inl (some (.int (nI 0))), (G, (mI (gu (gu A1v1 263 14 4294967295) 263 0 1), j), cc))))) ∧ ((2147483648 ≤ (raN false (A 269) (A 263 9) (A 264))) → ((raN false (A 269) (A 263 9) (A 264)) < 4294967296) ∧ ((((raN false (A 269) (A 263 9) (A 264)) < 2147483648) → EvP X (d + 30) gvm_245 41 [some (.ref 263), some (.int (nI (raN false (A 269) (A 263 9) (A 264)))), none] [] (G, (mI (gu A1v1 263 14 (A1v1 263 12)), j), cc) P) ∧ ((2147483648 ≤ (raN false (A 269) (A 263 9) (A 264))) → P (.inl (some (.int (nI 0))), (G, (mI (gu (gu A1v1 263 14 (A1v1 263 12)) 263 0 1), j), cc))))))))))) : EvP X (d + 30) gvm_245 0 (gv_enter [.ref 263] 3) [] (G, (mI A, j), cc) P :=
  (pv_aload_n rfl rfl   (pn_iconst rfl rfl   (match (r_readAll (b := false) (A := A) (X := X) (d := d + 0) (G := G) (j := j) (cc := cc) hp263 H.1 H.2.1 H.2.2.1 ) with | ⟨A1v1, e1x2, h1⟩ => pv_virt rfl rfl rfl rfl rfl (oX12_k hp263) rfl rfl rfl e1x2 (pv_istore_n rfl rfl   (pv_aload_n rfl rfl   (pv_iload_n rfl rfl   (pn_if_ge rfl (H.2.2.2 A1v1 h1).1 (fun c2 => (pn_iconst (u := 4294967295) rfl (by decide)   (pn_putI rfl rfl (oX12_k hp263)   (pv_aload_n rfl rfl   (pv_iload_n rfl rfl   (pn_if_ge rfl ((H.2.2.2 A1v1 h1).2.1 c2).1 (fun c3 => (pn_iconst rfl rfl   (pn_iconst rfl rfl   (pv_virt rfl rfl rfl rfl rfl (oX12_k hp263) rfl rfl rfl (r_thr_f (b := false) (c := 1) (A := (gu A1v1 263 14 4294967295)) hp263 rfl) (pn_if_eq rfl (by decide) (fun _ => (((H.2.2.2 A1v1 h1).2.1 c2).2.1 c3)) (fun e => absurd e (by decide))))))) (fun c3 => (pn_iconst rfl rfl   (pv_goto rfl (pn_iconst rfl rfl   (pv_virt rfl rfl rfl rfl rfl (oX12_k hp263) rfl rfl rfl (r_thr_t (b := true) (c := 1) (A := (gu A1v1 263 14 4294967295)) hp263 rfl) (pn_if_eq rfl (by decide) (fun e => absurd e (by decide)) (fun _ => (pn_iconst rfl rfl   (pv_ireti rfl rfl (((H.2.2.2 A1v1 h1).2.1 c2).2.2 c3)))))))))))))))) (fun c2 => (pv_aload_n rfl rfl   (pn_getI rfl rfl (oX12_k hp263) rfl   (pv_goto rfl (pn_putI rfl rfl (oX12_k hp263)   (pv_aload_n rfl rfl   (pv_iload_n rfl rfl   (pn_if_ge rfl ((H.2.2.2 A1v1 h1).2.2 c2).1 (fun c6 => (pn_iconst rfl rfl   (pn_iconst rfl rfl   (pv_virt rfl rfl rfl rfl rfl (oX12_k hp263) rfl rfl rfl (r_thr_f (b := false) (c := 1) (A := (gu A1v1 263 14 (A1v1 263 12))) hp263 rfl) (pn_if_eq rfl (by decide) (fun _ => (((H.2.2.2 A1v1 h1).2.2 c2).2.1 c6)) (fun e => absurd e (by decide))))))) (fun c6 => (pn_iconst rfl rfl   (pv_goto rfl (pn_iconst rfl rfl   (pv_virt rfl rfl rfl rfl rfl (oX12_k hp263) rfl rfl rfl (r_thr_t (b := true) (c := 1) (A := (gu A1v1 263 14 (A1v1 263 12))) hp263 rfl) (pn_if_eq rfl (by decide) (fun e => absurd e (by decide)) (fun _ => (pn_iconst rfl rfl   (pv_ireti rfl rfl (((H.2.2.2 A1v1 h1).2.2 c2).2.2 c6)))))))))))))))))))))))))
theorem w245_41 {X : gv_X} {d : Nat} {G : gv_Sh} {A : Nat → Nat → Nat} {j : Nat → Nat → Int64} {cc : gv_Rs} {P : gv_O × gv_S → Prop} {l1 : Nat} (hp263 : oX12 G 263) (H : EvP X (d + 30) gvm_245 52 [some (.ref 263), some (.int (nI l1)), some (.int (nI 0))] [] (G, (mI (gu A 264 1217 l1), j), cc) P) : EvP X (d + 30) gvm_245 41 [some (.ref 263), some (.int (nI l1)), none] [] (G, (mI A, j), cc) P :=
  (pv_aload_n rfl rfl   (pv_getP rfl rfl (oX12_k hp263) (oX12_1 hp263)   (pn_sipush rfl rfl   (pv_iload_n rfl rfl   (pn_iast rfl (oX12_1c hp263) (by decide) (by decide)  (pn_iconst rfl rfl   (pv_istore_n rfl rfl   H)))))))
theorem w245_52 {X : gv_X} {d : Nat} {G : gv_Sh} {A : Nat → Nat → Nat} {j : Nat → Nat → Int64} {cc : gv_Rs} {P : gv_O × gv_S → Prop} {l1 : Nat} {l2 : Nat} (hp263 : oX12 G 263) (H : (l2 < 2147483648) ∧ (((849 ≤ l2) → P (.inl (some (.int (nI l1))), (G, (mI (gu (gu A 264 2 1) 263 7 0), j), cc))) ∧ ((l2 < 849) → ((1217 + l2) < 2066) ∧ (((368 + l2) < 2066) ∧ (EvP X (d + 30) gvm_245 52 [some (.ref 263), some (.int (nI l1)), some (.int (nI (l2 + 1)))] [] (G, (mI (gu A 264 (368 + l2) (A 264 (1217 + l2))), j), cc) P))))) : EvP X (d + 30) gvm_245 52 [some (.ref 263), some (.int (nI l1)), some (.int (nI l2))] [] (G, (mI A, j), cc) P :=
  (pv_iload_n rfl rfl   (pn_sipush rfl rfl   (pn_ic_ge rfl H.1 (by decide) (fun c1 => (pv_aload_n rfl rfl   (pv_getP rfl rfl (oX12_k hp263) (oX12_1 hp263)   (pn_iconst rfl rfl   (pn_iconst rfl rfl   (pn_iast rfl (oX12_1c hp263) (by decide) (by decide)  (pv_aload_n rfl rfl   (pn_iconst rfl rfl   (pn_putI rfl rfl (oX12_k hp263)   (pv_iload_n rfl rfl   (pv_ireti rfl rfl (H.2.1 c1)))))))))))) (fun c1 => (pv_aload_n rfl rfl   (pv_getP rfl rfl (oX12_k hp263) (oX12_1 hp263)   (pn_sipush rfl rfl   (pv_iload_n rfl rfl   (pn_iadd rfl   (pv_aload_n rfl rfl   (pv_getP rfl rfl (oX12_k hp263) (oX12_1 hp263)   (pn_sipush rfl rfl   (pv_iload_n rfl rfl   (pn_iadd rfl   (pn_iald rfl (oX12_1c hp263) (by decide) (H.2.2 c1).1 rfl (pn_iast rfl (oX12_1c hp263) (by decide) (H.2.2 c1).2.1  (pn_iinc rfl rfl rfl rfl   (pv_goto rfl (H.2.2 c1).2.2))))))))))))))))))
theorem law_cp {X : gv_X} {d : Nat} {G : gv_Sh} {j : Nat → Nat → Int64} {cc : gv_Rs} {P : gv_O × gv_S → Prop} (hp263 : oX12 G 263) {B : Nat → Nat → Nat} {Q : Nat → Nat} {m : Nat} (hP : P (.inl (some (.int (nI m))), (G, (mI (gu (gu (gw B 264 (cpL Q 849)) 264 2 1) 263 7 0), j), cc))) : ∀ k l, l + k = 849 → EvP X (d + 30) gvm_245 52 [some (.ref 263), some (.int (nI m)), some (.int (nI l))] [] (G, (mI (gw B 264 (cpL Q l)), j), cc) P := by
  intro k
  induction k with
  | zero =>
    intro l hl
    obtain rfl : l = 849 := by omega
    exact w245_52 hp263 ⟨by omega, fun c1 => hP, fun c1 => absurd c1 (by omega)⟩
  | succ k ih =>
    intro l hl
    refine w245_52 hp263 ⟨by omega, fun c1 => absurd c1 (by omega), fun c1 => ⟨by omega, by omega, ?_⟩⟩
    have h := ih (l + 1) (by omega)
    rw [← cpL_s (by omega)] at h
    rw [gu_gwr, gw_at]
    exact h
theorem lawP_no {A B : Nat → Nat → Nat} {r : Nat × (Nat → Nat) × Nat × Nat × Nat} (h : laP (usM A) B r) (e : r.1 = 4294967295) : lawP A (gu (gu B 263 14 (B 263 12)) 263 0 1) r := by
  have q := h.2 e
  have f : ∀ k, gu (gu B 263 14 (B 263 12)) 263 0 1 263 k = if k = 0 then 1 else if k = 14 then B 263 12 else B 263 k := by
    intro k
    simp only [gu_at]
  have g : ∀ p, p ≠ 263 → gu (gu B 263 14 (B 263 12)) 263 0 1 p = B p := fun p hp => by rw [gu_ne hp, gu_ne hp]
  refine ⟨⟨fun p a b c => ?_, fun k a0 a7 a9 a10 a11 a12 a13 a14 a16 => ?_, ?_⟩, fun _ => ⟨?_, ?_, ?_, fun i hi => ?_⟩, fun z => absurd e z⟩
  · rw [g p a, q.2.1 p a b, usM_q a]
  · rw [f, if_neg a0, if_neg a14, q.2.2.1 k a10 a12 a13 a16, usM_f, if_neg a16, if_neg a10, if_neg a9, if_neg a11, if_neg a0]
  · rw [f, if_neg (by decide), if_neg (by decide), q.2.2.1 9 (by decide) (by decide) (by decide) (by decide), usM_f]; rfl
  · rw [f]; rfl
  · rw [f, if_neg (by decide), if_pos rfl]; exact q.1
  · rw [f, if_neg (by decide), if_neg (by decide), q.2.2.1 7 (by decide) (by decide) (by decide) (by decide), usM_f]; rfl
  · rw [g _ (by decide), q.2.2.2 i hi, usM_q (by decide)]
theorem lawP_yes {A B : Nat → Nat → Nat} {r : Nat × (Nat → Nat) × Nat × Nat × Nat} (h : laP (usM A) B r) (e : r.1 ≠ 4294967295) : lawP A (gu (gu (gw (gu B 263 14 4294967295) 264 (cpL (seR (B 264) 1217 r.1) 849)) 264 2 1) 263 7 0) r := by
  obtain ⟨dd, q⟩ := h.1 e
  have hb : B 264 = r.2.1 := by rw [q, ry_4]
  have f : ∀ k, gu (gu (gw (gu B 263 14 4294967295) 264 (cpL (seR (B 264) 1217 r.1) 849)) 264 2 1) 263 7 0 263 k = if k = 7 then 0 else if k = 14 then 4294967295 else B 263 k := by
    intro k
    rw [gu_at]
    show (if k = 7 then 0 else gu (gw (gu B 263 14 4294967295) 264 (cpL (seR (B 264) 1217 r.1) 849)) 264 2 1 263 k) = _
    rw [gu_ne (by decide), gw_row (by decide), gu_at]
  have g : ∀ p, p ≠ 263 → p ≠ 264 → gu (gu (gw (gu B 263 14 4294967295) 264 (cpL (seR (B 264) 1217 r.1) 849)) 264 2 1) 263 7 0 p = B p := fun p hp h2 => by rw [gu_ne hp, gu_ne h2, gw_row h2, gu_ne hp]
  have w : ∀ i, gu (gu (gw (gu B 263 14 4294967295) 264 (cpL (seR (B 264) 1217 r.1) 849)) 264 2 1) 263 7 0 264 i = if i = 2 then 1 else cpL (seR (B 264) 1217 r.1) 849 i := by
    intro i
    rw [gu_ne (by decide), gu_at, gw_at]
  obtain ⟨D, hD⟩ : ∃ D, D = gu (gu (gw (gu B 263 14 4294967295) 264 (cpL (seR (B 264) 1217 r.1) 849)) 264 2 1) 263 7 0 := ⟨_, rfl⟩
  rw [← hD] at f g w ⊢
  refine ⟨⟨fun p a b c => ?_, fun k a0 a7 a9 a10 a11 a12 a13 a14 a16 => ?_, ?_⟩, fun z => absurd z e, fun _ => ⟨?_, ?_, ?_, fun i hi => ?_⟩⟩
  · rw [g p a b, q, ry_q a b, usM_q a]
  · rw [f, if_neg a7, if_neg a14, q, ry_f, if_neg a10, if_neg a12, if_neg a16, if_neg a13, usM_f, if_neg a16, if_neg a10, if_neg a9, if_neg a11, if_neg a0]
  · rw [f, if_neg (by decide), if_neg (by decide), q, ry_f, usM_f]; rfl
  · rw [f, if_neg (by decide), if_neg (by decide), q, ry_f, usM_f]; rfl
  · rw [f]; rfl
  · rw [f]; rfl
  · rw [w]
    unfold lwR cpL
    by_cases c : i = 2
    · rw [if_pos c, if_pos c]
    · rw [if_neg c, if_neg c]
      by_cases c2 : i = 368
      · subst c2
        rw [if_pos rfl, if_pos (by omega)]
        exact seR_at _ _ _
      · rw [if_neg c2]
        by_cases c3 : 368 ≤ i
        · rw [if_pos c3, if_pos (by omega), seR_ne (by omega), hb]
        · rw [if_neg c3, if_neg (by omega), seR_ne (by omega), hb]
theorem r_law_p {X : gv_X} {d : Nat} {G : gv_Sh} {A : Nat → Nat → Nat} {j : Nat → Nat → Int64} {cc : gv_Rs} {P : gv_O × gv_S → Prop}  (hp263 : oX12 G 263) (p0 : A 263 9 ≤ 400) (p1 : ∀ i, i < 400 → A 269 i < 4294967296) (p2 : okW (A 264)) (hP : ∀ A1 : Nat → Nat → Nat, (lawP A A1 (raL (A 269) (A 263 9) (A 264))) → P (.inl (some (.int (nI (lwN (A 269) (A 263 9) (A 264))))), (G, (mI A1, j), cc))) : EvP X (d + 30) gvm_245 0 (gv_enter [.ref 263] 3) [] (G, (mI A, j), cc) P := by
  have hl := raL_le (A 269) (A 263 9) (A 264)
  have e1 : raN false (A 269) (A 263 9) (A 264) = (raL (A 269) (A 263 9) (A 264)).1 := if_neg (by decide)
  refine w245 hp263 ⟨p0, p1, p2, fun A1 h1 => ?_⟩
  have h := h1.2 rfl
  rw [e1]
  have Y : (raL (A 269) (A 263 9) (A 264)).1 ≠ 4294967295 → EvP X (d + 30) gvm_245 41 [some (.ref 263), some (.int (nI (raL (A 269) (A 263 9) (A 264)).1)), none] [] (G, (mI (gu A1 263 14 4294967295), j), cc) P := by
    intro ne
    have en : lwN (A 269) (A 263 9) (A 264) = (raL (A 269) (A 263 9) (A 264)).1 := if_neg ne
    rw [en] at hP
    refine w245_41 hp263 ?_
    have z := law_cp (X := X) (d := d) (G := G) (j := j) (cc := cc) (P := P) hp263 (B := gu A1 263 14 4294967295) (Q := seR (A1 264) 1217 (raL (A 269) (A 263 9) (A 264)).1) (m := (raL (A 269) (A 263 9) (A 264)).1) (hP _ (lawP_yes h ne)) 849 0 rfl
    rw [cpL_0] at z
    rw [gu_gw _ 264, gu_ne (by decide)]
    exact z
  refine ⟨by omega, fun c2 => ⟨by omega, fun c3 => Y (by omega), fun c3 => absurd c3 (by omega)⟩, fun c2 => ⟨by omega, fun c3 => absurd c3 (by omega), fun c3 => ?_⟩⟩
  have ne : (raL (A 269) (A 263 9) (A 264)).1 = 4294967295 := by omega
  have en : lwN (A 269) (A 263 9) (A 264) = 0 := if_pos ne
  rw [en] at hP
  exact hP _ (lawP_no h ne)
theorem r_law {X : gv_X} {d : Nat} {G : gv_Sh} {A : Nat → Nat → Nat} {j : Nat → Nat → Int64} {cc : gv_Rs}  (hp263 : oX12 G 263) (p0 : A 263 9 ≤ 400) (p1 : ∀ i, i < 400 → A 269 i < 4294967296) (p2 : okW (A 264)) : ∃ A1 : Nat → Nat → Nat, Ev X (d + 30) gvm_245 0 (gv_enter [.ref 263] 3) [] (G, (mI A, j), cc) (.inl (some (.int (nI (lwN (A 269) (A 263 9) (A 264))))), (G, (mI A1, j), cc)) ∧ (lawP A A1 (raL (A 269) (A 263 9) (A 264))) := by
  obtain ⟨_, h, A1, rfl, hp⟩ := r_law_p (X := X) (d := d) (G := G) (A := A) (j := j) (cc := cc)  (P := fun r => ∃ A1 : Nat → Nat → Nat, r = (.inl (some (.int (nI (lwN (A 269) (A 263 9) (A 264))))), (G, (mI A1, j), cc)) ∧ (lawP A A1 (raL (A 269) (A 263 9) (A 264)))) hp263 p0 p1 p2 (fun A1 h => ⟨A1, rfl, h⟩)
  exact ⟨A1, h, hp⟩
