/-! leaks, depth -/
theorem eqG_bo (R : Nat → Nat) : eqG R (boR R) := fun i hi => boR_o (by omega)
theorem okW_bo {R : Nat → Nat} (h : okW R) : okW (boR R) := by
  refine okW_G h (eqG_bo R) (fun g hg => ?_)
  have hb : ∀ i, i < 13 → boR R (102 + 13 * g + i) = (if i = 2 then 1 else if i < 5 then 0 else R (22 + (i - 5))) := by
    intro i hi
    unfold boR boN boV
    rw [if_pos (by omega), show (102 + 13 * g + i - 102) % 13 = i by omega]
  have e0 : boR R (102 + 13 * g + 0) = 0 := (hb 0 (by omega)).trans rfl
  have e1 : boR R (102 + 13 * g + 1) = 0 := (hb 1 (by omega)).trans rfl
  have e2 : boR R (102 + 13 * g + 2) = 1 := (hb 2 (by omega)).trans rfl
  have e3 : boR R (102 + 13 * g + 3) = 0 := (hb 3 (by omega)).trans rfl
  have e4 : boR R (102 + 13 * g + 4) = 0 := (hb 4 (by omega)).trans rfl
  refine ⟨?_, ?_, ?_, ⟨?_, ?_⟩, ?_, fun k hk => ?_⟩
  · show boR R (102 + 13 * g + 0) ≤ 12; omega
  · show boR R (102 + 13 * g + 1) ≤ 3; omega
  · show boR R (102 + 13 * g + 2) ≤ 1; omega
  · show boR R (102 + 13 * g + 3) ≤ 6; omega
  · show boR R (102 + 13 * g + 3) % 2 = 0; omega
  · show boR R (102 + 13 * g + 4) ≤ 7; omega
  · show boR R (102 + 13 * g + (5 + k)) ≤ 3
    rw [hb _ (by omega), if_neg (by omega), if_neg (by omega), show 5 + k - 5 = k by omega]
    exact okW_c h hk
/-- behind how many steps views are unlike -/
def lkN (T : Nat → Nat) : Nat → Nat → (Nat → Nat) → Nat
  | 0, _, _ => 4294967295
  | i + 1, n, R => if alk (hoR (baR R) T) = true then lkN T i (n + 1) (hoR (baR R) T) else n
theorem lkN_T {T U : Nat → Nat} : ∀ {i n : Nat} {R : Nat → Nat}, okW R → (∀ p, p < R 0 → T p = U p) → lkN T i n R = lkN U i n R
  | 0, _, _, _, _ => rfl
  | i + 1, n, R, h, ht => by
    unfold lkN
    have e := hoR_T (okW_ba h) (T := T) (U := U) (fun p hp => ht p (by rw [eqG_ba R 0 (by omega)] at hp; exact hp))
    rw [e, lkN_T (okW_ho (okW_ba h) U) (fun p hp => ht p (by rw [eqG_ho (baR R) U 0 (by omega), eqG_ba R 0 (by omega)] at hp; exact hp))]
theorem lkN_lt {T : Nat → Nat} : ∀ {i n : Nat} {R : Nat → Nat}, lkN T i n R = 4294967295 ∨ (n ≤ lkN T i n R ∧ lkN T i n R < n + i)
  | 0, _, _ => Or.inl rfl
  | i + 1, n, R => by
    unfold lkN
    split
    · have := lkN_lt (T := T) (i := i) (n := n + 1) (R := hoR (baR R) T); omega
    · right; omega
def emR (R T : Nat → Nat) (p : Nat) : Nat := R 6 + lsum R (T p) p 0
def dpN (T : Nat → Nat) (st each : Nat) : Nat → (Nat → Nat) → Nat
  | 0, _ => 0
  | i + 1, R => if R 3 ≤ R (102 + 13 * 1 + 0) then 0 else (st + (if hoW R ≤ 1 then (if each = 4294967295 then 1 else each * emR R T (hoP R)) else 0)) + dpN T st each i (hoR R T)
theorem emR_le {R : Nat → Nat} (h : okW R) (h2 : okLw R) (T : Nat → Nat) (p : Nat) : emR R T p ≤ 487 := by
  unfold emR
  have := (okW_n h).2.2.2.2.2.2.2.1
  have := lsum_le (t := T p) (p := p) (w := 0) h2
  omega
theorem back_eq {f g R : Nat → Nat} (h : ∀ i, i < 368 → f i = R i) (h2 : ∀ i, 368 ≤ i → g i = R i) : cpN f g 368 = R := by
  funext i
  unfold cpN
  by_cases hi : i < 368
  · rw [if_pos hi, h i hi]
  · rw [if_neg hi, h2 i (by omega)]
/-- kept, gone on, brought back -/
theorem kept {A B C : Nat → Nat → Nat} (h1 : B = gw A 267 (cpN (A 264) (A 267) 368)) (h2 : frU B C) (h3 : ∀ i, 368 ≤ i → C 264 i = A 264 i) : frQ A (gw C 264 (cpN (C 267) (C 264) 368)) ∧ gw C 264 (cpN (C 267) (C 264) 368) 264 = A 264 := by
  have e : cpN (C 267) (C 264) 368 = A 264 := by
    refine back_eq (fun i hi => ?_) h3
    rw [h2.1 267 (by decide) (by decide) (by decide) (by decide) (by decide) (by decide), h1, gw_at]
    unfold cpN
    rw [if_pos hi]
  rw [e]
  refine ⟨⟨fun q a => ?_, fun k a => ?_⟩, gw_at _ _ _⟩
  · by_cases hq : q = 264
    · rw [hq, gw_at]
    · rw [gw_row hq, h2.1 q (by omega) hq (by omega) (by omega) (by omega) (by omega), h1, gw_row (by omega)]
  · rw [gw_row (by decide), h2.2 k (by omega), h1, gw_row (by decide)]
theorem w306 {X : gv_X} {d : Nat} {G : gv_Sh} {A : Nat → Nat → Nat} {j : Nat → Nat → Int64} {cc : gv_Rs} {P : gv_O × gv_S → Prop}  (hp263 : oX12 G 263) (H : (∀ A1 : Nat → Nat → Nat, A1 = (gw A 264 (boR (A 264))) → EvP X (d + 7) gvm_306 8 [some (.ref 263), some (.int (nI 4294967295)), some (.int (nI 1))] [] (G, (mI A1, j), cc) P)) : EvP X (d + 7) gvm_306 0 (gv_enter [.ref 263] 3) [] (G, (mI A, j), cc) P :=
  (pv_aload_n rfl rfl   (match (⟨(gw A 264 (boR (A 264))), rfl⟩ : ∃ Z : Nat → Nat → Nat, Z = (gw A 264 (boR (A 264)))) with | ⟨A1, q1⟩ => pv_virt rfl rfl rfl rfl rfl (oX12_k hp263) rfl rfl rfl (ev_eqM q1 (r_bothBoot (A := A) hp263 )) (pn_iconst rfl (by decide)   (pv_istore_n rfl rfl   (pn_iconst rfl rfl   (pv_istore_n rfl rfl   (H A1 q1)))))))
theorem w306_8 {X : gv_X} {d : Nat} {G : gv_Sh} {A : Nat → Nat → Nat} {j : Nat → Nat → Int64} {cc : gv_Rs} {P : gv_O × gv_S → Prop} {l1 : Nat} {l2 : Nat} (hp263 : oX12 G 263) (H : (l2 < 2147483648) ∧ (((60 < l2) → P (.inl (some (.int (nI l1))), (G, (mI A, j), cc))) ∧ ((l2 ≤ 60) → (l1 < 4294967296) ∧ (((¬ l1 = 4294967295) → P (.inl (some (.int (nI l1))), (G, (mI A, j), cc))) ∧ ((l1 = 4294967295) → (okW (A 264)) ∧ ((∀ A11 : Nat → Nat → Nat, ((A11 264 = baR (A 264)) ∧ (frG A A11)) → (okW (A11 264)) ∧ ((okLw (A11 264)) ∧ ((∀ p, p < 8 → A11 273 p < 16) ∧ ((∀ A12 : Nat → Nat → Nat, ((A12 264 = hoR (A11 264) (A11 273)) ∧ (frG A11 A12)) → (okW (A12 264)) ∧ ((((alk (A12 264)) = false) → EvP X (d + 7) gvm_306 8 [some (.ref 263), some (.int (nI l2)), some (.int (nI (l2 + 1)))] [] (G, (mI A12, j), cc) P) ∧ (((alk (A12 264)) = true) → EvP X (d + 7) gvm_306 8 [some (.ref 263), some (.int (nI 4294967295)), some (.int (nI (l2 + 1)))] [] (G, (mI A12, j), cc) P))))))))))))) : EvP X (d + 7) gvm_306 8 [some (.ref 263), some (.int (nI l1)), some (.int (nI l2))] [] (G, (mI A, j), cc) P :=
  (pv_iload_n rfl rfl   (pn_bipush rfl rfl   (pn_ic_gt rfl H.1 (by decide) (fun c1 => (pv_iload_n rfl rfl   (pv_ireti rfl rfl (H.2.1 c1)))) (fun c1 => (pv_iload_n rfl rfl   (pn_iconst rfl (by decide)   (pn_ic_ne rfl (H.2.2 c1).1 (by decide) (fun c2 => (pv_iload_n rfl rfl   (pv_ireti rfl rfl ((H.2.2 c1).2.1 c2)))) (fun c2 => (pv_aload_n rfl rfl   (match (r_bareSteps (A := A) (X := X) (d := d + 2) (G := G) (j := j) (cc := cc) hp263 ((H.2.2 c1).2.2 c2).1 ) with | ⟨A11, e3x20, h3⟩ => pv_virt rfl rfl rfl rfl rfl (oX12_k hp263) rfl rfl rfl e3x20 (pv_aload_n rfl rfl   (match (r_hostedSteps (A := A11) (X := X) (d := d + 0) (G := G) (j := j) (cc := cc) hp263 (((H.2.2 c1).2.2 c2).2 A11 h3).1 (((H.2.2 c1).2.2 c2).2 A11 h3).2.1 (((H.2.2 c1).2.2 c2).2 A11 h3).2.2.1 ) with | ⟨A12, e3x24, h4⟩ => pv_virt rfl rfl rfl rfl rfl (oX12_k hp263) rfl rfl rfl e3x24 (pv_pop rfl rfl   (pv_aload_n rfl rfl   (pv_virt rfl rfl rfl rfl rfl (oX12_k hp263) rfl rfl rfl (r_areAlike (A := A12) hp263 ((((H.2.2 c1).2.2 c2).2 A11 h3).2.2.2 A12 h4).1 ) (pv_if_eq_zo rfl  (fun c5 => (pv_iload_n rfl rfl   (pv_istore_n rfl rfl   (pn_iinc rfl rfl rfl rfl   (pv_goto rfl (((((H.2.2 c1).2.2 c2).2 A11 h3).2.2.2 A12 h4).2.1 c5)))))) (fun c5 => (pn_iconst rfl (by decide)   (pv_goto rfl (pv_istore_n rfl rfl   (pn_iinc rfl rfl rfl rfl   (pv_goto rfl (((((H.2.2 c1).2.2 c2).2 A11 h3).2.2.2 A12 h4).2.2 c5)))))))))))))))))))))))
theorem r_leaksAt_p {X : gv_X} {d : Nat} {G : gv_Sh} {A : Nat → Nat → Nat} {j : Nat → Nat → Int64} {cc : gv_Rs} {P : gv_O × gv_S → Prop}  (hp263 : oX12 G 263) (p0 : okW (A 264)) (p1 : okLw (A 264)) (p2 : ∀ p, p < 8 → A 273 p < 16) (hP : ∀ A1 : Nat → Nat → Nat, (okW (A1 264)) ∧ (eqG (A 264) (A1 264)) ∧ (frG A A1) → P (.inl (some (.int (nI (lkN (A 273) 60 1 (boR (A 264)))))), (G, (mI A1, j), cc))) : EvP X (d + 7) gvm_306 0 (gv_enter [.ref 263] 3) [] (G, (mI A, j), cc) P := by
  refine w306 hp263 (fun A1 q1 => ?_)
  have L : ∀ i n B, i + n = 61 → 1 ≤ n → okW (B 264) → okLw (B 264) → eqG (A 264) (B 264) → frG A B → lkN (A 273) i n (B 264) = lkN (A 273) 60 1 (boR (A 264)) → EvP X (d + 7) gvm_306 8 [some (.ref 263), some (.int (nI 4294967295)), some (.int (nI n))] [] (G, (mI B, j), cc) P := by
    intro i
    induction i with
    | zero =>
      intro n B hi hn h0 h1 h2 h3 h4
      refine w306_8 hp263 ⟨by omega, fun c1 => ?_, fun c1 => by omega⟩
      exact qn (hP B ⟨h0, h2, h3⟩) h4.symm
    | succ i ih =>
      intro n B hi hn h0 h1 h2 h3 h4
      have e3 := frG_273 h3
      refine w306_8 hp263 ⟨by omega, fun c1 => by omega, fun c1 => ⟨by omega, fun c2 => absurd rfl c2, fun c2 => ⟨h0, fun C hC => ?_⟩⟩⟩
      obtain ⟨hC1, hC2⟩ := hC
      have g3 := (frG_273 hC2).trans e3
      refine ⟨by rw [hC1]; exact okW_ba h0, by rw [hC1]; exact okLw_G h1 (eqG_ba _), by rw [g3]; exact p2, fun D hD => ?_⟩
      obtain ⟨hD1, hD2⟩ := hD
      rw [hC1, g3] at hD1
      have oD : okW (D 264) := by rw [hD1]; exact okW_ho (okW_ba h0) _
      have eD : eqG (B 264) (D 264) := by rw [hD1]; exact eqG_tr (eqG_ba _) (eqG_ho _ _)
      have fD := frG_tr h3 (frG_tr hC2 hD2)
      have hs : lkN (A 273) (i + 1) n (B 264) = if alk (D 264) = true then lkN (A 273) i (n + 1) (D 264) else n := by rw [hD1]; rfl
      rw [hs] at h4
      refine ⟨oD, fun c5 => ?_, fun c5 => ?_⟩
      · rw [c5, if_neg (by decide)] at h4
        refine w306_8 hp263 ⟨by omega, fun c1 => ?_, fun c1 => ⟨by omega, fun c2 => ?_, fun c2 => by omega⟩⟩
        all_goals exact qn (hP D ⟨oD, eqG_tr h2 eD, fD⟩) h4.symm
      · rw [c5, if_pos rfl] at h4
        exact ih (n + 1) D (by omega) (by omega) oD (okLw_G h1 eD) (eqG_tr h2 eD) fD h4
  have e4 : A1 264 = boR (A 264) := by rw [q1, gw_at]
  exact L 60 1 A1 rfl (by omega) (by rw [e4]; exact okW_bo p0) (by rw [e4]; exact okLw_G p1 (eqG_bo _)) (by rw [e4]; exact eqG_bo _) (by rw [q1]; exact frG_gw _ _) (by rw [e4])
theorem r_leaksAt {X : gv_X} {d : Nat} {G : gv_Sh} {A : Nat → Nat → Nat} {j : Nat → Nat → Int64} {cc : gv_Rs}  (hp263 : oX12 G 263) (p0 : okW (A 264)) (p1 : okLw (A 264)) (p2 : ∀ p, p < 8 → A 273 p < 16) : ∃ A1 : Nat → Nat → Nat, Ev X (d + 7) gvm_306 0 (gv_enter [.ref 263] 3) [] (G, (mI A, j), cc) (.inl (some (.int (nI (lkN (A 273) 60 1 (boR (A 264)))))), (G, (mI A1, j), cc)) ∧ (okW (A1 264)) ∧ (eqG (A 264) (A1 264)) ∧ (frG A A1) := by
  obtain ⟨_, h, A1, rfl, hp⟩ := r_leaksAt_p (X := X) (d := d) (G := G) (A := A) (j := j) (cc := cc)  (P := fun r => ∃ A1 : Nat → Nat → Nat, r = (.inl (some (.int (nI (lkN (A 273) 60 1 (boR (A 264)))))), (G, (mI A1, j), cc)) ∧ (okW (A1 264)) ∧ (eqG (A 264) (A1 264)) ∧ (frG A A1)) hp263 p0 p1 p2 (fun A1 h => ⟨A1, rfl, h⟩)
  exact ⟨A1, h, hp⟩
theorem w307 {X : gv_X} {d : Nat} {G : gv_Sh} {A : Nat → Nat → Nat} {j : Nat → Nat → Int64} {cc : gv_Rs} {P : gv_O × gv_S → Prop}  (hp263 : oX12 G 263) (H : (okW (A 264)) ∧ ((TrJ (gu A 263 0 0) j) ∧ ((∀ A11 : Nat → Nat → Nat, ∀ j11 : Nat → Nat → Int64, ((frT (gu A 263 0 0) A11) ∧ (∀ q, q ≠ 274 → j11 q = j q) ∧ (TrJ A11 j11) ∧ (∀ p, p < A 264 0 → A11 273 p = tbF (A 264) p)) → EvP X (d + 8) gvm_307 9 [some (.ref 263), none] [] (G, (mI A11, j11), cc) P)))) : EvP X (d + 8) gvm_307 0 (gv_enter [.ref 263] 2) [] (G, (mI A, j), cc) P :=
  (pv_aload_n rfl rfl   (pn_iconst rfl rfl   (pn_putI rfl rfl (oX12_k hp263)   (pv_aload_n rfl rfl   (match (r_lays (A := (gu A 263 0 0)) (X := X) (d := d + 0) (G := G) (j := j) (cc := cc) hp263 H.1 H.2.1 ) with | ⟨A11, j11, e1x6, h1⟩ => pv_virt rfl rfl rfl rfl rfl (oX12_k hp263) rfl rfl rfl e1x6 (H.2.2 A11 j11 h1))))))
theorem w307_9 {X : gv_X} {d : Nat} {G : gv_Sh} {A : Nat → Nat → Nat} {j : Nat → Nat → Int64} {cc : gv_Rs} {P : gv_O × gv_S → Prop}  (hp263 : oX12 G 263) (H : (∀ A1 : Nat → Nat → Nat, A1 = (gw A 267 (cpN (A 264) (A 267) 368)) → (okW (A1 264)) ∧ ((okLw (A1 264)) ∧ ((∀ p, p < 8 → A1 273 p < 16) ∧ ((∀ A12 : Nat → Nat → Nat, ((okW (A12 264)) ∧ (eqG (A1 264) (A12 264)) ∧ (frG A1 A12)) → (∀ A3 : Nat → Nat → Nat, A3 = (gw A12 264 (cpN (A12 267) (A12 264) 368)) → P (.inl (some (.int (nI (lkN (A1 273) 60 1 (boR (A1 264)))))), (G, (mI A3, j), cc))))))))) : EvP X (d + 8) gvm_307 9 [some (.ref 263), none] [] (G, (mI A, j), cc) P :=
  (pv_aload_n rfl rfl   (match (⟨(gw A 267 (cpN (A 264) (A 267) 368)), rfl⟩ : ∃ Z : Nat → Nat → Nat, Z = (gw A 267 (cpN (A 264) (A 267) 368))) with | ⟨A1, q1⟩ => pv_virt rfl rfl rfl rfl rfl (oX12_k hp263) rfl rfl rfl (ev_eqM q1 (r_keepsAll (A := A) hp263 )) (pv_aload_n rfl rfl   (match (r_leaksAt (A := A1) (X := X) (d := d + 0) (G := G) (j := j) (cc := cc) hp263 (H A1 q1).1 (H A1 q1).2.1 (H A1 q1).2.2.1 ) with | ⟨A12, e3x14, h2⟩ => pv_virt rfl rfl rfl rfl rfl (oX12_k hp263) rfl rfl rfl e3x14 (pv_istore_n rfl rfl   (pv_aload_n rfl rfl   (match (⟨(gw A12 264 (cpN (A12 267) (A12 264) 368)), rfl⟩ : ∃ Z : Nat → Nat → Nat, Z = (gw A12 264 (cpN (A12 267) (A12 264) 368))) with | ⟨A3, q3⟩ => pv_virt rfl rfl rfl rfl rfl (oX12_k hp263) rfl rfl rfl (ev_eqM q3 (r_bringsBack (A := A12) hp263 )) (pv_iload_n rfl rfl   (pv_ireti rfl rfl (((H A1 q1).2.2.2 A12 h2) A3 q3))))))))))
theorem r_leaks_p {X : gv_X} {d : Nat} {G : gv_Sh} {A : Nat → Nat → Nat} {j : Nat → Nat → Int64} {cc : gv_Rs} {P : gv_O × gv_S → Prop}  (hp263 : oX12 G 263) (p0 : okW (A 264)) (p1 : okLw (A 264)) (p2 : TrJ A j) (hP : ∀ A1 : Nat → Nat → Nat, ∀ j1 : Nat → Nat → Int64, (frQ A A1) ∧ (TrJ A1 j1) ∧ (A1 263 0 = 0) → P (.inl (some (.int (nI (lkN (tbF (A 264)) 60 1 (boR (A 264)))))), (G, (mI A1, j1), cc))) : EvP X (d + 8) gvm_307 0 (gv_enter [.ref 263] 2) [] (G, (mI A, j), cc) P := by
  refine w307 hp263 ⟨p0, TrJ_of p2 rfl rfl, fun B jj h1 => ?_⟩
  obtain ⟨f1, f2, f3, f4⟩ := h1
  have e4 : B 264 = A 264 := Eq.trans (frT_264 f1) rfl
  refine w307_9 hp263 (fun C hC => ?_)
  have c4 : C 264 = A 264 := by rw [hC, gw_row (by decide), e4]
  have c3 : C 273 = B 273 := by rw [hC, gw_row (by decide)]
  refine ⟨by rw [c4]; exact p0, by rw [c4]; exact p1, by rw [c3]; exact f3.2, fun D hD => fun E hE => ?_⟩
  obtain ⟨d1, d2, d3⟩ := hD
  have k := kept hC (frU_G d3) (fun i hi => by rw [d2 i (by omega), c4, e4])
  rw [← hE] at k
  refine qn (hP E jj ⟨frQ_tr (frQ_T (frQ_0 (frQ_rf _)) f1) k.1, TrJ_of f3 ?_ rfl, ?_⟩) ?_
  · rw [hE, gw_row (by decide), frG_273 d3, c3]
  · rw [hE, gw_row (by decide), d3.2 0 (by omega), hC, gw_row (by decide), f1.2 0 (by omega)]
    rfl
  · rw [c4, c3]
    exact (lkN_T (okW_bo p0) (fun p hp => by rw [boR_o (by omega)] at hp; exact f4 p hp)).symm
theorem r_leaks {X : gv_X} {d : Nat} {G : gv_Sh} {A : Nat → Nat → Nat} {j : Nat → Nat → Int64} {cc : gv_Rs}  (hp263 : oX12 G 263) (p0 : okW (A 264)) (p1 : okLw (A 264)) (p2 : TrJ A j) : ∃ A1 : Nat → Nat → Nat, ∃ j1 : Nat → Nat → Int64, Ev X (d + 8) gvm_307 0 (gv_enter [.ref 263] 2) [] (G, (mI A, j), cc) (.inl (some (.int (nI (lkN (tbF (A 264)) 60 1 (boR (A 264)))))), (G, (mI A1, j1), cc)) ∧ (frQ A A1) ∧ (TrJ A1 j1) ∧ (A1 263 0 = 0) := by
  obtain ⟨_, h, A1, j1, rfl, hp⟩ := r_leaks_p (X := X) (d := d) (G := G) (A := A) (j := j) (cc := cc)  (P := fun r => ∃ A1 : Nat → Nat → Nat, ∃ j1 : Nat → Nat → Int64, r = (.inl (some (.int (nI (lkN (tbF (A 264)) 60 1 (boR (A 264)))))), (G, (mI A1, j1), cc)) ∧ (frQ A A1) ∧ (TrJ A1 j1) ∧ (A1 263 0 = 0)) hp263 p0 p1 p2 (fun A1 j1 h => ⟨A1, j1, rfl, h⟩)
  exact ⟨A1, j1, h, hp⟩
theorem w308 {X : gv_X} {d : Nat} {G : gv_Sh} {A : Nat → Nat → Nat} {j : Nat → Nat → Int64} {cc : gv_Rs} {P : gv_O × gv_S → Prop} {n : Nat} {st : Nat} {each : Nat} (hp263 : oX12 G 263) (H : (okW (A 264)) ∧ ((TrJ A j) ∧ ((∀ A11 : Nat → Nat → Nat, ∀ j11 : Nat → Nat → Int64, ((frT A A11) ∧ (∀ q, q ≠ 274 → j11 q = j q) ∧ (TrJ A11 j11) ∧ (∀ p, p < A 264 0 → A11 273 p = tbF (A 264) p)) → (∀ A2 : Nat → Nat → Nat, A2 = (gw A11 267 (cpN (A11 264) (A11 267) 368)) → (∀ A3 : Nat → Nat → Nat, A3 = (gw A2 264 (boR (A2 264))) → EvP X (d + 8) gvm_308 18 [some (.ref 263), some (.int (nI n)), some (.int (nI st)), some (.int (nI each)), some (.int (nI 0)), some (.int (nI 0)), none, none] [] (G, (mI A3, j11), cc) P)))))) : EvP X (d + 8) gvm_308 0 (gv_enter [.ref 263, .int (nI n), .int (nI st), .int (nI each)] 8) [] (G, (mI A, j), cc) P :=
  (pv_aload_n rfl rfl   (match (r_lays (A := A) (X := X) (d := d + 0) (G := G) (j := j) (cc := cc) hp263 H.1 H.2.1 ) with | ⟨A11, j11, e3x1, h1⟩ => pv_virt rfl rfl rfl rfl rfl (oX12_k hp263) rfl rfl rfl e3x1 (pv_aload_n rfl rfl   (match (⟨(gw A11 267 (cpN (A11 264) (A11 267) 368)), rfl⟩ : ∃ Z : Nat → Nat → Nat, Z = (gw A11 267 (cpN (A11 264) (A11 267) 368))) with | ⟨A2, q2⟩ => pv_virt rfl rfl rfl rfl rfl (oX12_k hp263) rfl rfl rfl (ev_eqM q2 (r_keepsAll (A := A11) hp263 )) (pv_aload_n rfl rfl   (match (⟨(gw A2 264 (boR (A2 264))), rfl⟩ : ∃ Z : Nat → Nat → Nat, Z = (gw A2 264 (boR (A2 264)))) with | ⟨A3, q3⟩ => pv_virt rfl rfl rfl rfl rfl (oX12_k hp263) rfl rfl rfl (ev_eqM q3 (r_bothBoot (A := A2) hp263 )) (pn_iconst rfl rfl   (pv_istore rfl rfl   (pn_iconst rfl rfl   (pv_istore rfl rfl   (((H.2.2 A11 j11 h1) A2 q2) A3 q3)))))))))))
theorem w308_18 {X : gv_X} {d : Nat} {G : gv_Sh} {A : Nat → Nat → Nat} {j : Nat → Nat → Int64} {cc : gv_Rs} {P : gv_O × gv_S → Prop} {n : Nat} {st : Nat} {each : Nat} {l4 : Nat} {l5 : Nat} {l6 : Option Value} {l7 : Option Value} (hp263 : oX12 G 263) (H : (l5 < 2147483648) ∧ ((n < 2147483648) ∧ (((n ≤ l5) → (∀ A2 : Nat → Nat → Nat, A2 = (gw A 264 (cpN (A 267) (A 264) 368)) → P (.inl (some (.int (nI l4))), (G, (mI A2, j), cc)))) ∧ ((l5 < n) → (okW (A 264)) ∧ (((A 264 3 ≤ A 264 (102 + 13 * 1 + 0)) → (∀ A4 : Nat → Nat → Nat, A4 = (gw A 264 (cpN (A 267) (A 264) 368)) → P (.inl (some (.int (nI l4))), (G, (mI A4, j), cc)))) ∧ ((¬ (A 264 3 ≤ A 264 (102 + 13 * 1 + 0))) → (((102 + (13 * 1)) + 0) < 2066) ∧ (((12 + (A 264 ((102 + (13 * 1)) + 0))) < 2066) ∧ ((okW (A 264)) ∧ ((okLw (A 264)) ∧ ((∀ p, p < 8 → A 273 p < 16) ∧ ((∀ A15 : Nat → Nat → Nat, ((A15 264 = hoR (A 264) (A 273)) ∧ (frG A A15)) → ((hoW (A 264)) < 4294967296) ∧ (((¬ ((hoW (A 264)) ≤ 1)) → EvP X (d + 8) gvm_308 18 [some (.ref 263), some (.int (nI n)), some (.int (nI st)), some (.int (nI each)), some (.int (nI (l4 + (st + 0)))), some (.int (nI (l5 + 1))), some (.int (nI (A 264 (12 + (A 264 ((102 + (13 * 1)) + 0)))))), some (.int (zo (decide ((hoW (A 264)) ≤ 1))))] [] (G, (mI A15, j), cc) P) ∧ (((hoW (A 264)) ≤ 1) → (each < 4294967296) ∧ (((each < 2147483648) → (okW (A15 264)) ∧ ((okLw (A15 264)) ∧ (((A 264 (12 + (A 264 ((102 + (13 * 1)) + 0)))) < 8) ∧ ((A15 273 (A 264 (12 + (A 264 ((102 + (13 * 1)) + 0)))) < 16) ∧ ((∀ A16 : Nat → Nat → Nat, ((∀ q, q ≠ 275 → A16 q = A15 q)) → EvP X (d + 8) gvm_308 18 [some (.ref 263), some (.int (nI n)), some (.int (nI st)), some (.int (nI each)), some (.int (nI (l4 + (st + (each * (A15 264 6 + lsum (A15 264) (A15 273 (A 264 (12 + (A 264 ((102 + (13 * 1)) + 0))))) (A 264 (12 + (A 264 ((102 + (13 * 1)) + 0)))) 0)))))), some (.int (nI (l5 + 1))), some (.int (nI (A 264 (12 + (A 264 ((102 + (13 * 1)) + 0)))))), some (.int (zo (decide ((hoW (A 264)) ≤ 1))))] [] (G, (mI A16, j), cc) P)))))) ∧ ((2147483648 ≤ each) → EvP X (d + 8) gvm_308 18 [some (.ref 263), some (.int (nI n)), some (.int (nI st)), some (.int (nI each)), some (.int (nI (l4 + (st + 1)))), some (.int (nI (l5 + 1))), some (.int (nI (A 264 (12 + (A 264 ((102 + (13 * 1)) + 0)))))), some (.int (zo (decide ((hoW (A 264)) ≤ 1))))] [] (G, (mI A15, j), cc) P)))))))))))))))) : EvP X (d + 8) gvm_308 18 [some (.ref 263), some (.int (nI n)), some (.int (nI st)), some (.int (nI each)), some (.int (nI l4)), some (.int (nI l5)), l6, l7] [] (G, (mI A, j), cc) P :=
  (pv_iload rfl rfl   (pv_iload_n rfl rfl   (pn_ic_ge rfl H.1 H.2.1 (fun c1 => (pv_aload_n rfl rfl   (match (⟨(gw A 264 (cpN (A 267) (A 264) 368)), rfl⟩ : ∃ Z : Nat → Nat → Nat, Z = (gw A 264 (cpN (A 267) (A 264) 368))) with | ⟨A2, q2⟩ => pv_virt rfl rfl rfl rfl rfl (oX12_k hp263) rfl rfl rfl (ev_eqM q2 (r_bringsBack (A := A) hp263 )) (pv_iload rfl rfl   (pv_ireti rfl rfl ((H.2.2.1 c1) A2 q2)))))) (fun c1 => (pv_aload_n rfl rfl   (pn_iconst rfl rfl   (pv_virt rfl rfl rfl rfl rfl (oX12_k hp263) rfl rfl rfl (r_isHalted (g := 1) (A := A) hp263 (H.2.2.2 c1).1 (by decide) ) (pv_if_ne_dc rfl  (fun c3 => (pv_aload_n rfl rfl   (match (⟨(gw A 264 (cpN (A 267) (A 264) 368)), rfl⟩ : ∃ Z : Nat → Nat → Nat, Z = (gw A 264 (cpN (A 267) (A 264) 368))) with | ⟨A4, q4⟩ => pv_virt rfl rfl rfl rfl rfl (oX12_k hp263) rfl rfl rfl (ev_eqM q4 (r_bringsBack (A := A) hp263 )) (pv_iload rfl rfl   (pv_ireti rfl rfl (((H.2.2.2 c1).2.1 c3) A4 q4)))))) (fun c3 => (pv_aload_n rfl rfl   (pv_getP rfl rfl (oX12_k hp263) (oX12_1 hp263)   (pn_bipush rfl rfl   (pv_aload_n rfl rfl   (pn_iconst rfl rfl   (pn_iconst rfl rfl   (pv_virt rfl rfl rfl rfl rfl (oX12_k hp263) rfl rfl rfl (r_ofGuest (g := 1) (what := 0) (A := A) hp263 ((H.2.2.2 c1).2.2 c3).1 ) (pn_iadd rfl   (pn_iald rfl (oX12_1c hp263) (by decide) ((H.2.2.2 c1).2.2 c3).2.1 rfl (pv_istore rfl rfl   (pv_aload_n rfl rfl   (match (r_hostedSteps (A := A) (X := X) (d := d + 1) (G := G) (j := j) (cc := cc) hp263 ((H.2.2.2 c1).2.2 c3).2.2.1 ((H.2.2.2 c1).2.2 c3).2.2.2.1 ((H.2.2.2 c1).2.2 c3).2.2.2.2.1 ) with | ⟨A15, e6x49, h5⟩ => pv_virt rfl rfl rfl rfl rfl (oX12_k hp263) rfl rfl rfl e6x49 (pn_iconst rfl rfl   (pn_iconst rfl rfl   (pv_stat rfl rfl rfl rfl rfl rfl rfl rfl (r_in0 (v := (hoW (A 264))) (h := 1) (((H.2.2.2 c1).2.2 c3).2.2.2.2.2 A15 h5).1 (by decide)) (pv_istore rfl rfl   (pv_iload rfl rfl   (pv_iload_n rfl rfl   (pv_iload rfl rfl   (pv_if_eq_dc rfl  (fun c6 => (pn_iconst rfl rfl   (pn_iadd rfl   (pn_iadd rfl   (pv_istore rfl rfl   (pn_iinc rfl rfl rfl rfl   (pv_goto rfl ((((H.2.2.2 c1).2.2 c3).2.2.2.2.2 A15 h5).2.1 c6)))))))) (fun c6 => (pv_iload_n rfl rfl   (pn_if_ge rfl ((((H.2.2.2 c1).2.2 c3).2.2.2.2.2 A15 h5).2.2 c6).1 (fun c7 => (pv_iload_n rfl rfl   (pv_aload_n rfl rfl   (pv_iload rfl rfl   (match (r_emulationOf (p := (A 264 (12 + (A 264 ((102 + (13 * 1)) + 0))))) (A := A15) (X := X) (d := d + 2) (G := G) (j := j) (cc := cc) hp263 (((((H.2.2.2 c1).2.2 c3).2.2.2.2.2 A15 h5).2.2 c6).2.1 c7).1 (((((H.2.2.2 c1).2.2 c3).2.2.2.2.2 A15 h5).2.2 c6).2.1 c7).2.1 (((((H.2.2.2 c1).2.2 c3).2.2.2.2.2 A15 h5).2.2 c6).2.1 c7).2.2.1 (((((H.2.2.2 c1).2.2 c3).2.2.2.2.2 A15 h5).2.2 c6).2.1 c7).2.2.2.1 ) with | ⟨A16, e6x79, h8⟩ => pv_virt rfl rfl rfl rfl rfl (oX12_k hp263) rfl rfl rfl e6x79 (pn_imul rfl   (pv_goto rfl (pn_iadd rfl   (pn_iadd rfl   (pv_istore rfl rfl   (pn_iinc rfl rfl rfl rfl   (pv_goto rfl ((((((H.2.2.2 c1).2.2 c3).2.2.2.2.2 A15 h5).2.2 c6).2.1 c7).2.2.2.2 A16 h8))))))))))))) (fun c7 => (pn_iconst rfl rfl   (pv_goto rfl (pn_iadd rfl   (pn_iadd rfl   (pv_istore rfl rfl   (pn_iinc rfl rfl rfl rfl   (pv_goto rfl (((((H.2.2.2 c1).2.2 c3).2.2.2.2.2 A15 h5).2.2 c6).2.2 c7)))))))))))))))))))))))))))))))))))))))))
theorem r_depthOf_p {X : gv_X} {d : Nat} {G : gv_Sh} {A : Nat → Nat → Nat} {j : Nat → Nat → Int64} {cc : gv_Rs} {P : gv_O × gv_S → Prop} {n : Nat} {st : Nat} {each : Nat} (hp263 : oX12 G 263) (p0 : okW (A 264)) (p1 : okLw (A 264)) (p2 : TrJ A j) (p3 : n ≤ 60) (p4 : st ≤ 1) (p5 : each = 4294967295 ∨ each ≤ 5) (hP : ∀ A1 : Nat → Nat → Nat, ∀ j1 : Nat → Nat → Int64, (frQ A A1) ∧ (TrJ A1 j1) ∧ (A1 263 0 = A 263 0) → P (.inl (some (.int (nI (dpN (tbF (A 264)) st each n (boR (A 264)))))), (G, (mI A1, j1), cc))) : EvP X (d + 8) gvm_308 0 (gv_enter [.ref 263, .int (nI n), .int (nI st), .int (nI each)] 8) [] (G, (mI A, j), cc) P := by
  refine w308 hp263 ⟨p0, p2, fun B jj h1 => fun C hC => fun D hD => ?_⟩
  obtain ⟨f1, f2, f3, f4⟩ := h1
  have e4 : B 264 = A 264 := frT_264 f1
  have c4 : C 264 = A 264 := by rw [hC, gw_row (by decide), e4]
  have c3 : C 273 = B 273 := by rw [hC, gw_row (by decide)]
  have L : ∀ i k E m l6 l7, i + k = n → m ≤ 2500 * k → okW (E 264) → okLw (E 264) → eqG (A 264) (E 264) → frG C E → m + dpN (tbF (A 264)) st each i (E 264) = dpN (tbF (A 264)) st each n (boR (A 264)) → EvP X (d + 8) gvm_308 18 [some (.ref 263), some (.int (nI n)), some (.int (nI st)), some (.int (nI each)), some (.int (nI m)), some (.int (nI k)), l6, l7] [] (G, (mI E, jj), cc) P := by
    have fin : ∀ E m, okW (E 264) → eqG (A 264) (E 264) → frG C E → m = dpN (tbF (A 264)) st each n (boR (A 264)) → ∀ Z, Z = gw E 264 (cpN (E 267) (E 264) 368) → P (.inl (some (.int (nI m))), (G, (mI Z, jj), cc)) := by
      intro E m h0 h2 h3 h4 Z hZ
      have k := kept hC (frU_G h3) (fun i hi => by rw [h2 i (by omega), e4])
      rw [← hZ] at k
      refine qn (hP Z jj ⟨frQ_tr (frQ_T (frQ_rf _) f1) k.1, TrJ_of f3 ?_ rfl, ?_⟩) h4.symm
      · rw [hZ, gw_row (by decide), frG_273 h3, c3]
      · rw [hZ, gw_row (by decide), h3.2 0 (by omega), hC, gw_row (by decide), f1.2 0 (by omega)]
    intro i
    induction i with
    | zero =>
      intro k E m l6 l7 hi hm h0 h1 h2 h3 h4
      refine w308_18 hp263 ⟨by omega, by omega, fun c1 => fun Z hZ => fin E m h0 h2 h3 h4 Z hZ, fun c1 => by omega⟩
    | succ i ih =>
      intro k E m l6 l7 hi hm h0 h1 h2 h3 h4
      have g3 := (frG_273 h3).trans c3
      have hg := okW_g h0 (g := 1) (by omega)
      have hn := okW_n h0
      by_cases hh : E 264 3 ≤ E 264 (102 + 13 * 1 + 0)
      · have e0 : dpN (tbF (A 264)) st each (i + 1) (E 264) = 0 := if_pos hh
        rw [e0, Nat.add_zero] at h4
        refine w308_18 hp263 ⟨by omega, by omega, fun c1 => by omega, fun c1 => ⟨h0, fun c3 => fun Z hZ => fin E m h0 h2 h3 h4 Z hZ, fun c3 => absurd hh c3⟩⟩
      · have hp : E 264 (12 + E 264 (102 + 13 * 1 + 0)) < E 264 0 := hoP_lt h0 hh
        have ht : ∀ p, p < E 264 0 → E 273 p = tbF (A 264) p := fun p hp => by rw [g3]; exact f4 p (by rw [h2 0 (by omega)] at hp; exact hp)
        have es : dpN (tbF (A 264)) st each (i + 1) (E 264) = (st + (if hoW (E 264) ≤ 1 then (if each = 4294967295 then 1 else each * emR (E 264) (tbF (A 264)) (hoP (E 264))) else 0)) + dpN (tbF (A 264)) st each i (hoR (E 264) (tbF (A 264))) := if_neg hh
        have hem := emR_le h0 h1 (tbF (A 264)) (hoP (E 264))
        have eho := hoR_T h0 ht
        rw [es] at h4
        have hwl := hoW_lt (E 264)
        refine w308_18 hp263 ⟨by omega, by omega, fun c1 => by omega, fun c1 => ⟨h0, fun c3 => absurd c3 hh, fun c3 => ⟨by omega, by omega, h0, h1, by rw [g3]; exact f3.2, fun F hF => ?_⟩⟩⟩
        obtain ⟨F1, F2⟩ := hF
        rw [eho] at F1
        have oF : okW (F 264) := by rw [F1]; exact okW_ho h0 _
        have eF : eqG (E 264) (F 264) := by rw [F1]; exact eqG_ho _ _
        have lF : okLw (F 264) := okLw_G h1 eF
        have tF : F 273 = E 273 := frG_273 F2
        rw [← F1] at h4
        have ev : F 264 6 + lsum (F 264) (F 273 (hoP (E 264))) (hoP (E 264)) 0 = emR (E 264) (tbF (A 264)) (hoP (E 264)) := by
          unfold emR
          rw [eF 6 (by omega), lsum_G eF (p := hoP (E 264)) (Nat.lt_of_lt_of_le hp hn.1) hn.2.2.2.1, tF, ht (hoP (E 264)) hp]
        have hm2 : ∀ y, y ≤ 5 → y * emR (E 264) (tbF (A 264)) (hoP (E 264)) ≤ 5 * 487 := fun y hy => Nat.mul_le_mul hy hem
        refine ⟨hwl, fun c6 => ?_, fun c6 => ⟨by omega, fun c7 => ⟨oF, lF, by omega, by rw [tF, g3]; exact f3.2 _ (by omega), fun Q hQ => ?_⟩, fun c7 => ?_⟩⟩
        · rw [if_neg c6] at h4
          exact ih (k + 1) F _ _ _ (by omega) (by omega) oF lF (eqG_tr h2 eF) (frG_tr h3 F2) (by omega)
        · have hm3 := hm2 each (by omega)
          rw [if_pos c6, if_neg (by omega)] at h4
          have q4 : Q 264 = F 264 := hQ 264 (by decide)
          rw [show E 264 (12 + E 264 (102 + 13 * 1 + 0)) = hoP (E 264) from rfl, ev]
          exact ih (k + 1) Q _ _ _ (by omega) (by omega) (by rw [q4]; exact oF) (by rw [q4]; exact lF) (by rw [q4]; exact eqG_tr h2 eF) (frG_tr h3 (frG_tr F2 (frG_275 hQ))) (by rw [q4]; omega)
        · rw [if_pos c6, if_pos (by omega)] at h4
          exact ih (k + 1) F _ _ _ (by omega) (by omega) oF lF (eqG_tr h2 eF) (frG_tr h3 F2) (by omega)
  have d4 : D 264 = boR (A 264) := by rw [hD, gw_at, c4]
  exact L n 0 D 0 none none (by omega) (by omega) (by rw [d4]; exact okW_bo p0) (by rw [d4]; exact okLw_G p1 (eqG_bo _)) (by rw [d4]; exact eqG_bo _) (by rw [hD]; exact frG_gw _ _) (by rw [d4, Nat.zero_add])
theorem r_depthOf {X : gv_X} {d : Nat} {G : gv_Sh} {A : Nat → Nat → Nat} {j : Nat → Nat → Int64} {cc : gv_Rs} {n : Nat} {st : Nat} {each : Nat} (hp263 : oX12 G 263) (p0 : okW (A 264)) (p1 : okLw (A 264)) (p2 : TrJ A j) (p3 : n ≤ 60) (p4 : st ≤ 1) (p5 : each = 4294967295 ∨ each ≤ 5) : ∃ A1 : Nat → Nat → Nat, ∃ j1 : Nat → Nat → Int64, Ev X (d + 8) gvm_308 0 (gv_enter [.ref 263, .int (nI n), .int (nI st), .int (nI each)] 8) [] (G, (mI A, j), cc) (.inl (some (.int (nI (dpN (tbF (A 264)) st each n (boR (A 264)))))), (G, (mI A1, j1), cc)) ∧ (frQ A A1) ∧ (TrJ A1 j1) ∧ (A1 263 0 = A 263 0) := by
  obtain ⟨_, h, A1, j1, rfl, hp⟩ := r_depthOf_p (X := X) (d := d) (G := G) (A := A) (j := j) (cc := cc) (n := n) (st := st) (each := each) (P := fun r => ∃ A1 : Nat → Nat → Nat, ∃ j1 : Nat → Nat → Int64, r = (.inl (some (.int (nI (dpN (tbF (A 264)) st each n (boR (A 264)))))), (G, (mI A1, j1), cc)) ∧ (frQ A A1) ∧ (TrJ A1 j1) ∧ (A1 263 0 = A 263 0)) hp263 p0 p1 p2 p3 p4 p5 (fun A1 j1 h => ⟨A1, j1, rfl, h⟩)
  exact ⟨A1, j1, h, hp⟩
theorem w309 {X : gv_X} {d : Nat} {G : gv_Sh} {A : Nat → Nat → Nat} {j : Nat → Nat → Int64} {cc : gv_Rs} {P : gv_O × gv_S → Prop} {n : Nat} (hp263 : oX12 G 263) (H : (n < 4294967296) ∧ (((n ≤ 60) → (okW (A 264)) ∧ ((okLw (A 264)) ∧ ((TrJ (gu A 263 0 0) j) ∧ ((n ≤ 60) ∧ ((4294967295 = 4294967295 ∨ 4294967295 ≤ 5) ∧ ((∀ A11 : Nat → Nat → Nat, ∀ j11 : Nat → Nat → Int64, ((frQ (gu A 263 0 0) A11) ∧ (TrJ A11 j11) ∧ (A11 263 0 = (gu A 263 0 0) 263 0)) → P (.inl (some (.int (nI (dpN (tbF (A 264)) 0 4294967295 n (boR (A 264)))))), (G, (mI A11, j11), cc))))))))) ∧ ((¬ (n ≤ 60)) → P (.inl (some (.int (nI 0))), (G, (mI (gu (gu A 263 0 0) 263 0 1), j), cc))))) : EvP X (d + 9) gvm_309 0 (gv_enter [.ref 263, .int (nI n)] 2) [] (G, (mI A, j), cc) P :=
  (pv_aload_n rfl rfl   (pn_iconst rfl rfl   (pn_putI rfl rfl (oX12_k hp263)   (pv_aload_n rfl rfl   (pv_iload_n rfl rfl   (pn_iconst rfl rfl   (pn_bipush rfl rfl   (pv_stat rfl rfl rfl rfl rfl rfl rfl rfl (r_in0 (v := n) (h := 60) H.1 (by decide)) (pv_if_ne_dc rfl  (fun c1 => (pn_iconst rfl rfl   (pn_iconst rfl rfl   (pv_virt rfl rfl rfl rfl rfl (oX12_k hp263) rfl rfl rfl (r_thr_f (b := false) (c := 1) (A := (gu A 263 0 0)) hp263 rfl) (pn_if_eq rfl (by decide) (fun _ => (pv_aload_n rfl rfl   (pv_iload_n rfl rfl   (pn_iconst rfl rfl   (pn_iconst rfl (by decide)   (match (r_depthOf (n := n) (st := 0) (each := 4294967295) (A := (gu A 263 0 0)) (X := X) (d := d + 0) (G := G) (j := j) (cc := cc) hp263 (H.2.1 c1).1 (H.2.1 c1).2.1 (H.2.1 c1).2.2.1 (H.2.1 c1).2.2.2.1 (by decide) (H.2.1 c1).2.2.2.2.1 ) with | ⟨A11, j11, e1x36, h3⟩ => pv_virt rfl rfl rfl rfl rfl (oX12_k hp263) rfl rfl rfl e1x36 (pv_ireti rfl rfl ((H.2.1 c1).2.2.2.2.2 A11 j11 h3)))))))) (fun e => absurd e (by decide))))))) (fun c1 => (pn_iconst rfl rfl   (pv_goto rfl (pn_iconst rfl rfl   (pv_virt rfl rfl rfl rfl rfl (oX12_k hp263) rfl rfl rfl (r_thr_t (b := true) (c := 1) (A := (gu A 263 0 0)) hp263 rfl) (pn_if_eq rfl (by decide) (fun e => absurd e (by decide)) (fun _ => (pn_iconst rfl rfl   (pv_goto rfl (pv_ireti rfl rfl (H.2.2 c1))))))))))))))))))))
def spTraps (R : Nat → Nat) (n : Nat) : Nat × Nat := if 60 < n then (1, 0) else (0, dpN (tbF R) 0 4294967295 n (boR R))
def spDepth (R : Nat → Nat) (n k : Nat) : Nat × Nat := if 60 < n ∨ 5 < k then (1, 0) else (0, dpN (tbF R) 1 k n (boR R))
theorem r_traps_p {X : gv_X} {d : Nat} {G : gv_Sh} {A : Nat → Nat → Nat} {j : Nat → Nat → Int64} {cc : gv_Rs} {P : gv_O × gv_S → Prop} {n : Nat} (hp263 : oX12 G 263) (p0 : okW (A 264)) (p1 : okLw (A 264)) (p2 : TrJ A j) (p3 : n < 4294967296) (hP : ∀ A1 : Nat → Nat → Nat, ∀ j1 : Nat → Nat → Int64, (frQ A A1) ∧ (TrJ A1 j1) ∧ (A1 263 0 = (spTraps (A 264) n).1) → P (.inl (some (.int (nI (spTraps (A 264) n).2))), (G, (mI A1, j1), cc))) : EvP X (d + 9) gvm_309 0 (gv_enter [.ref 263, .int (nI n)] 2) [] (G, (mI A, j), cc) P := by
  refine w309 hp263  ⟨by (first | omega | assumption), ⟨fun c1 => ⟨by (first | omega | assumption), ⟨by (first | omega | assumption), ⟨by (first | omega | assumption), ⟨by (first | omega | assumption), ⟨by (first | omega | assumption), (fun A11 j11 h3 => ?_)⟩⟩⟩⟩⟩, fun c1 => ?_⟩⟩
  · exact qn (hP _ _ ⟨frQ_tr (frQ_0 (frQ_rf _)) h3.1, h3.2.1, h3.2.2.trans (by rw [gu_hit]; unfold spTraps; rw [if_neg (by omega)])⟩) (by unfold spTraps; rw [if_neg (by omega)])
  · exact qn (hP _ _ ⟨frQ_0 (frQ_0 (frQ_rf _)), TrJ_of p2 rfl rfl, by rw [gu_hit]; unfold spTraps; rw [if_pos (by omega)]⟩) (by unfold spTraps; rw [if_pos (by omega)])
theorem r_traps {X : gv_X} {d : Nat} {G : gv_Sh} {A : Nat → Nat → Nat} {j : Nat → Nat → Int64} {cc : gv_Rs} {n : Nat} (hp263 : oX12 G 263) (p0 : okW (A 264)) (p1 : okLw (A 264)) (p2 : TrJ A j) (p3 : n < 4294967296) : ∃ A1 : Nat → Nat → Nat, ∃ j1 : Nat → Nat → Int64, Ev X (d + 9) gvm_309 0 (gv_enter [.ref 263, .int (nI n)] 2) [] (G, (mI A, j), cc) (.inl (some (.int (nI (spTraps (A 264) n).2))), (G, (mI A1, j1), cc)) ∧ (frQ A A1) ∧ (TrJ A1 j1) ∧ (A1 263 0 = (spTraps (A 264) n).1) := by
  obtain ⟨_, h, A1, j1, rfl, hp⟩ := r_traps_p (X := X) (d := d) (G := G) (A := A) (j := j) (cc := cc) (n := n) (P := fun r => ∃ A1 : Nat → Nat → Nat, ∃ j1 : Nat → Nat → Int64, r = (.inl (some (.int (nI (spTraps (A 264) n).2))), (G, (mI A1, j1), cc)) ∧ (frQ A A1) ∧ (TrJ A1 j1) ∧ (A1 263 0 = (spTraps (A 264) n).1)) hp263 p0 p1 p2 p3 (fun A1 j1 h => ⟨A1, j1, rfl, h⟩)
  exact ⟨A1, j1, h, hp⟩
theorem w310 {X : gv_X} {d : Nat} {G : gv_Sh} {A : Nat → Nat → Nat} {j : Nat → Nat → Int64} {cc : gv_Rs} {P : gv_O × gv_S → Prop} {n : Nat} {k : Nat} (hp263 : oX12 G 263) (H : (n < 4294967296) ∧ (((¬ (n ≤ 60)) → P (.inl (some (.int (nI 0))), (G, (mI (gu (gu A 263 0 0) 263 0 1), j), cc))) ∧ ((n ≤ 60) → (k < 4294967296) ∧ (((k ≤ 5) → (okW (A 264)) ∧ ((okLw (A 264)) ∧ ((TrJ (gu A 263 0 0) j) ∧ ((n ≤ 60) ∧ ((k = 4294967295 ∨ k ≤ 5) ∧ ((∀ A11 : Nat → Nat → Nat, ∀ j11 : Nat → Nat → Int64, ((frQ (gu A 263 0 0) A11) ∧ (TrJ A11 j11) ∧ (A11 263 0 = (gu A 263 0 0) 263 0)) → P (.inl (some (.int (nI (dpN (tbF (A 264)) 1 k n (boR (A 264)))))), (G, (mI A11, j11), cc))))))))) ∧ ((¬ (k ≤ 5)) → P (.inl (some (.int (nI 0))), (G, (mI (gu (gu A 263 0 0) 263 0 1), j), cc))))))) : EvP X (d + 9) gvm_310 0 (gv_enter [.ref 263, .int (nI n), .int (nI k)] 3) [] (G, (mI A, j), cc) P :=
  (pv_aload_n rfl rfl   (pn_iconst rfl rfl   (pn_putI rfl rfl (oX12_k hp263)   (pv_aload_n rfl rfl   (pv_iload_n rfl rfl   (pn_iconst rfl rfl   (pn_bipush rfl rfl   (pv_stat rfl rfl rfl rfl rfl rfl rfl rfl (r_in0 (v := n) (h := 60) H.1 (by decide)) (pv_if_eq_dc rfl  (fun c1 => (pn_iconst rfl rfl   (pv_goto rfl (pn_iconst rfl rfl   (pv_virt rfl rfl rfl rfl rfl (oX12_k hp263) rfl rfl rfl (r_thr_t (b := true) (c := 1) (A := (gu A 263 0 0)) hp263 rfl) (pn_if_eq rfl (by decide) (fun e => absurd e (by decide)) (fun _ => (pn_iconst rfl rfl   (pv_goto rfl (pv_ireti rfl rfl (H.2.1 c1))))))))))) (fun c1 => (pv_iload_n rfl rfl   (pn_iconst rfl rfl   (pn_iconst rfl rfl   (pv_stat rfl rfl rfl rfl rfl rfl rfl rfl (r_in0 (v := k) (h := 5) (H.2.2 c1).1 (by decide)) (pv_if_ne_dc rfl  (fun c3 => (pn_iconst rfl rfl   (pn_iconst rfl rfl   (pv_virt rfl rfl rfl rfl rfl (oX12_k hp263) rfl rfl rfl (r_thr_f (b := false) (c := 1) (A := (gu A 263 0 0)) hp263 rfl) (pn_if_eq rfl (by decide) (fun _ => (pv_aload_n rfl rfl   (pv_iload_n rfl rfl   (pn_iconst rfl rfl   (pv_iload_n rfl rfl   (match (r_depthOf (n := n) (st := 1) (each := k) (A := (gu A 263 0 0)) (X := X) (d := d + 0) (G := G) (j := j) (cc := cc) hp263 ((H.2.2 c1).2.1 c3).1 ((H.2.2 c1).2.1 c3).2.1 ((H.2.2 c1).2.1 c3).2.2.1 ((H.2.2 c1).2.1 c3).2.2.2.1 (by decide) ((H.2.2 c1).2.1 c3).2.2.2.2.1 ) with | ⟨A11, j11, e1x45, h5⟩ => pv_virt rfl rfl rfl rfl rfl (oX12_k hp263) rfl rfl rfl e1x45 (pv_ireti rfl rfl (((H.2.2 c1).2.1 c3).2.2.2.2.2 A11 j11 h5)))))))) (fun e => absurd e (by decide))))))) (fun c3 => (pn_iconst rfl rfl   (pv_goto rfl (pn_iconst rfl rfl   (pv_virt rfl rfl rfl rfl rfl (oX12_k hp263) rfl rfl rfl (r_thr_t (b := true) (c := 1) (A := (gu A 263 0 0)) hp263 rfl) (pn_if_eq rfl (by decide) (fun e => absurd e (by decide)) (fun _ => (pn_iconst rfl rfl   (pv_goto rfl (pv_ireti rfl rfl ((H.2.2 c1).2.2 c3))))))))))))))))))))))))))
theorem r_depth_p {X : gv_X} {d : Nat} {G : gv_Sh} {A : Nat → Nat → Nat} {j : Nat → Nat → Int64} {cc : gv_Rs} {P : gv_O × gv_S → Prop} {n : Nat} {k : Nat} (hp263 : oX12 G 263) (p0 : okW (A 264)) (p1 : okLw (A 264)) (p2 : TrJ A j) (p3 : n < 4294967296) (p4 : k < 4294967296) (hP : ∀ A1 : Nat → Nat → Nat, ∀ j1 : Nat → Nat → Int64, (frQ A A1) ∧ (TrJ A1 j1) ∧ (A1 263 0 = (spDepth (A 264) n k).1) → P (.inl (some (.int (nI (spDepth (A 264) n k).2))), (G, (mI A1, j1), cc))) : EvP X (d + 9) gvm_310 0 (gv_enter [.ref 263, .int (nI n), .int (nI k)] 3) [] (G, (mI A, j), cc) P := by
  refine w310 hp263  ⟨by (first | omega | assumption), ⟨fun c1 => ?_, fun c1 => ⟨by (first | omega | assumption), ⟨fun c3 => ⟨by (first | omega | assumption), ⟨by (first | omega | assumption), ⟨by (first | omega | assumption), ⟨by (first | omega | assumption), ⟨by (first | omega | assumption), (fun A11 j11 h5 => ?_)⟩⟩⟩⟩⟩, fun c3 => ?_⟩⟩⟩⟩
  · exact qn (hP _ _ ⟨frQ_0 (frQ_0 (frQ_rf _)), TrJ_of p2 rfl rfl, by rw [gu_hit]; unfold spDepth; rw [if_pos (by omega)]⟩) (by unfold spDepth; rw [if_pos (by omega)])
  · exact qn (hP _ _ ⟨frQ_tr (frQ_0 (frQ_rf _)) h5.1, h5.2.1, h5.2.2.trans (by rw [gu_hit]; unfold spDepth; rw [if_neg (by omega)])⟩) (by unfold spDepth; rw [if_neg (by omega)])
  · exact qn (hP _ _ ⟨frQ_0 (frQ_0 (frQ_rf _)), TrJ_of p2 rfl rfl, by rw [gu_hit]; unfold spDepth; rw [if_pos (by omega)]⟩) (by unfold spDepth; rw [if_pos (by omega)])
theorem r_depth {X : gv_X} {d : Nat} {G : gv_Sh} {A : Nat → Nat → Nat} {j : Nat → Nat → Int64} {cc : gv_Rs} {n : Nat} {k : Nat} (hp263 : oX12 G 263) (p0 : okW (A 264)) (p1 : okLw (A 264)) (p2 : TrJ A j) (p3 : n < 4294967296) (p4 : k < 4294967296) : ∃ A1 : Nat → Nat → Nat, ∃ j1 : Nat → Nat → Int64, Ev X (d + 9) gvm_310 0 (gv_enter [.ref 263, .int (nI n), .int (nI k)] 3) [] (G, (mI A, j), cc) (.inl (some (.int (nI (spDepth (A 264) n k).2))), (G, (mI A1, j1), cc)) ∧ (frQ A A1) ∧ (TrJ A1 j1) ∧ (A1 263 0 = (spDepth (A 264) n k).1) := by
  obtain ⟨_, h, A1, j1, rfl, hp⟩ := r_depth_p (X := X) (d := d) (G := G) (A := A) (j := j) (cc := cc) (n := n) (k := k) (P := fun r => ∃ A1 : Nat → Nat → Nat, ∃ j1 : Nat → Nat → Int64, r = (.inl (some (.int (nI (spDepth (A 264) n k).2))), (G, (mI A1, j1), cc)) ∧ (frQ A A1) ∧ (TrJ A1 j1) ∧ (A1 263 0 = (spDepth (A 264) n k).1)) hp263 p0 p1 p2 p3 p4 (fun A1 j1 h => ⟨A1, j1, rfl, h⟩)
  exact ⟨A1, j1, h, hp⟩
