/-! the class: World, the hosted guest's step; ticks -/
/-- the ledger is ready -/
def lg (A : Nat → Nat → Nat) (R : Nat → Nat) : Prop := okLw R ∧ rRu A 48 R ∧ stT A R ∧ smI A R
theorem lg_of {A B : Nat → Nat → Nat} {R : Nat → Nat} (h : lg A R) (e : ∀ q, (48 ≤ q ∧ q ≤ 53) ∨ q = 56 ∨ q = 61 → B q = A q) : lg B R := ⟨h.1, rRu_of h.2.1 (fun a x y => e a (by omega)), stT_of h.2.2.1 (e 56 (by omega)), smI_of h.2.2.2 (e 61 (by omega))⟩
theorem lg_X {A : Nat → Nat → Nat} {R S : Nat → Nat} (o : okW R) (h : lg A R) (e : eqX R S) : lg A S := ⟨okLw_X h.1 e, rRu_R h.2.1 (fun i hi => e i (by omega)), stT_S o h.2.2.1 (eqX_S e), smI_S o h.2.2.2 (eqX_S e)⟩
def caN (R : Nat → Nat) : Nat := if R 3 ≤ R (102 + 13 * 1 + 0) then 4294967295 else if trp R (hoP R) (R (102 + 13 * 1 + 2)) = true then 0 else if R (30 + 9 * hoP R + 1) = 1 ∨ R (30 + 9 * hoP R + 2) = 1 then 1 else if (mOp 0 R (hoP R) (gM R 1 0 (R 5))).2.1 = 1 then 2 else 5
theorem caN_lt (R : Nat → Nat) : caN R < 4294967296 := by
  unfold caN
  repeat' split
  all_goals omega
theorem caN_ho (R : Nat → Nat) : (caN R ≤ 1 ↔ hoW R ≤ 1) ∧ (hoW R = 4294967295 ↔ (caN R = 4294967295 ∨ caN R = 5)) ∧ (hoW R ≠ 4294967295 → hoW R = caN R) := by
  unfold caN hoW
  repeat' split
  all_goals omega
theorem rW_n {A B : Nat → Nat → Nat} {w : Nat} {R S : Nat → Nat} (h : rW A w R) (o : okW R) (e : ∀ i, (i = 0 ∨ i = 3 ∨ i = 10 ∨ (12 ≤ i ∧ i < 368)) → S i = R i) (hn : rN B w S) (hf : ∀ q, q ≠ w → B q = A q) (h2 : B w 2 = A w 2) : rW B w S := by
  have n := okW_n o
  obtain ⟨h1, h2', h3, h4, h5, h6, h7⟩ := h
  refine ⟨rO_X (rO_fr h1 (fun a x y => hf a (by omega))) o (fun i hi => e i (by omega)), rP_R (rP_of h2' h2 (hf _ (by omega))) n.2.2.2.1 (fun i hi => e i (by omega)), fun k hk => ?_, hn, rC_R (rC_of h5 (hf _ (by omega)) (hf _ (by omega))) (fun i hi => e _ (by omega)), rC_R (rC_of h6 (hf _ (by omega)) (hf _ (by omega))) (fun i hi => e _ (by omega)), rL_R (rL_of h7 (hf _ (by omega)) (hf _ (by omega))) n.2.2.2.2.2.2.2.2.2.2.2.1 (fun i hi => e i (by omega))⟩
  rw [hf (w + 8) (by omega), e _ (by omega)]; exact h3 k hk
theorem rW_l {A B : Nat → Nat → Nat} {w : Nat} {R S : Nat → Nat} (h : rW A w R) (o : okW R) (e : ∀ i, ¬ (i = 10 ∨ (128 ≤ i ∧ i < 368)) → S i = R i) (hl : rL B (w + 13) S) (hf : ∀ q, q ≠ w + 13 → q ≠ w + 13 + 1 → B q = A q) : rW B w S := by
  have n := okW_n o
  obtain ⟨h1, h2, h3, h4, h5, h6, h7⟩ := h
  refine ⟨rO_X (rO_fr h1 (fun a x y => hf a (by omega) (by omega))) o (fun i hi => e i (by omega)), rP_R (rP_of h2 (by rw [hf w (by omega) (by omega)]) (hf _ (by omega) (by omega))) n.2.2.2.1 (fun i hi => e i (by omega)), fun k hk => ?_, ?_, rC_R (rC_of h5 (hf _ (by omega) (by omega)) (hf _ (by omega) (by omega))) (fun i hi => e _ (by omega)), rC_R (rC_of h6 (hf _ (by omega) (by omega)) (hf _ (by omega) (by omega))) (fun i hi => e _ (by omega)), hl⟩
  · rw [hf (w + 8) (by omega) (by omega), e _ (by omega)]; exact h3 k hk
  · unfold rN
    rw [hf w (by omega) (by omega), e 4 (by omega), e 5 (by omega), e 6 (by omega), e 7 (by omega), e 8 (by omega), e 9 (by omega), e 11 (by omega), e 1 (by omega)]
    exact h4
theorem toR_o {R : Nat → Nat} {p k c i : Nat} (h : ¬ (i = 10 ∨ (128 ≤ i ∧ i < 368))) : toR R p k c i = R i := by
  unfold toR
  rw [if_neg (by omega), if_neg (by omega), if_neg (by omega), if_neg (by omega), if_neg (by omega), if_neg (by omega)]
theorem toR_ct (R : Nat → Nat) (p k c : Nat) : toR (ctR (ctR R 0) 1) p k c = ctR (ctR (toR R p k c) 0) 1 := by
  have ct : ∀ (S : Nat → Nat) g i, g < 2 → (i < 102 ∨ 128 ≤ i) → ctR S g i = S i := fun S g i hg hi => by unfold ctR; rw [if_neg (by omega), if_neg (by omega)]
  funext i
  by_cases z : i = 10 ∨ (128 ≤ i ∧ i < 368)
  · rw [ct _ _ _ (by omega) (by omega), ct _ _ _ (by omega) (by omega)]
    unfold toR
    rw [ct _ 1 10 (by omega) (by omega), ct _ 0 10 (by omega) (by omega), ct _ 1 8 (by omega) (by omega), ct _ 0 8 (by omega) (by omega)]
    by_cases y : 132 ≤ i ∧ i < 368
    · rw [ct _ 1 (i - 4) (by omega) (by omega), ct _ 0 (i - 4) (by omega) (by omega)]
      repeat' split
      all_goals first | rfl | omega
    · repeat' split
      all_goals first | rfl | omega
  · rw [toR_o z]
    unfold ctR
    simp only [toR_o z, toR_o (R := R) (p := p) (k := k) (c := c) (i := 4) (by omega)]
theorem w97 {X : gv_X} {d : Nat} {G : gv_Sh} {A : Nat → Nat → Nat} {j : Nat → Nat → Int64} {cc : gv_Rs} {P : gv_O × gv_S → Prop} {w : Nat} (hw : oX10 G w) (hp47 : oX4 G 47) (H : ((A (w + 11) 0) < 4294967296) ∧ ((A w 2 ≤ 10) ∧ (EvP X (d + 4) gvm_97 12 [some (.ref w), some (.ref 47), some (.int (nI (if (A (w + 11) 0) < A w 2 then A (w + 7) (A (w + 11) 0) else 4294967295))), none] [] (G, (mI A, j), cc) P))) : EvP X (d + 4) gvm_97 0 (gv_enter [.ref w, .ref 47] 4) [] (G, (mI A, j), cc) P :=
  (pv_aload_n rfl rfl   (pv_aload_n rfl rfl   (pv_getP rfl rfl (oX10_k hw) (oX10_13 hw)   (pn_getI rfl rfl (oX1_k (oX10_13c hw)) rfl   (pv_virt rfl rfl rfl rfl rfl (oX10_k hw) rfl rfl rfl (c_opAt (c := (A (w + 11) 0)) (w := w) (A := A) hw H.1 H.2.1 ) (pv_istore_n rfl rfl   H.2.2))))))
theorem w97_12 {X : gv_X} {d : Nat} {G : gv_Sh} {A : Nat → Nat → Nat} {j : Nat → Nat → Int64} {cc : gv_Rs} {P : gv_O × gv_S → Prop} {w : Nat} {l2 : Nat} (hw : oX10 G w) (hp47 : oX4 G 47) (H : (l2 < 4294967296) ∧ (((¬ l2 = 4294967295) → EvP X (d + 4) gvm_97 19 [some (.ref w), some (.ref 47), some (.int (nI l2)), none] [] (G, (mI A, j), cc) P) ∧ ((l2 = 4294967295) → P (.inl (some (.int (nI 4294967295))), (G, (mI A, j), cc))))) : EvP X (d + 4) gvm_97 12 [some (.ref w), some (.ref 47), some (.int (nI l2)), none] [] (G, (mI A, j), cc) P :=
  (pv_iload_n rfl rfl   (pn_iconst (u := 4294967295) rfl (by decide)   (pn_ic_ne rfl H.1 (by decide) (fun c1 => (H.2.1 c1)) (fun c1 => (pn_iconst (u := 4294967295) rfl (by decide)   (pv_ireti rfl rfl (H.2.2 c1)))))))
theorem w97_19 {X : gv_X} {d : Nat} {G : gv_Sh} {A : Nat → Nat → Nat} {j : Nat → Nat → Int64} {cc : gv_Rs} {P : gv_O × gv_S → Prop} {w : Nat} {l2 : Nat} (hw : oX10 G w) (hp47 : oX4 G 47) (H : (l2 < 4294967296) ∧ (((A (w + 11) 2) < 4294967296) ∧ ((A (w + 1) 0 ≤ 8) ∧ ((∀ z, z < A (w + 1) 0 → A ((w + 1) + 4) z ≤ 1) ∧ (((¬ ((A (w + 11) 2) = 0 ∧ l2 < A (w + 1) 0 ∧ A ((w + 1) + 4) l2 = 1)) → EvP X (d + 4) gvm_97 53 [some (.ref w), some (.ref 47), some (.int (nI l2)), none] [] (G, (mI A, j), cc) P) ∧ (((A (w + 11) 2) = 0 ∧ l2 < A (w + 1) 0 ∧ A ((w + 1) + 4) l2 = 1) → (∀ A2 : Nat → Nat → Nat, A2 = (gu (gu A (w + 11) 2 1) (w + 11) 0 (A w 4)) → EvP X (d + 4) gvm_97 106 [some (.ref w), some (.ref 47), some (.int (nI l2)), some (.int (nI 0))] [] (G, (mI A2, j), cc) P))))))) : EvP X (d + 4) gvm_97 19 [some (.ref w), some (.ref 47), some (.int (nI l2)), none] [] (G, (mI A, j), cc) P :=
  (pv_aload_n rfl rfl   (pv_getP rfl rfl (oX10_k hw) (oX10_0 hw)   (pv_iload_n rfl rfl   (pv_aload_n rfl rfl   (pv_getP rfl rfl (oX10_k hw) (oX10_13 hw)   (pn_getI rfl rfl (oX1_k (oX10_13c hw)) rfl   (pv_virt rfl rfl rfl rfl rfl (oX6_k (oX10_0c hw)) rfl rfl rfl (c_trapsIn (p := l2) (m := (A (w + 11) 2)) (o := (w + 1)) (A := A) (oX10_0c hw) H.1 H.2.1 H.2.2.1 H.2.2.2.1 ) (pv_if_eq_dc rfl  (fun c1 => (H.2.2.2.2.1 c1)) (fun c1 => (pv_aload_n rfl rfl   (pv_getP rfl rfl (oX10_k hw) (oX10_13 hw)   (pv_aload_n rfl rfl   (pn_getI rfl rfl (oX10_k hw) rfl   (match (⟨(gu (gu A (w + 11) 2 1) (w + 11) 0 (A w 4)), rfl⟩ : ∃ Z : Nat → Nat → Nat, Z = (gu (gu A (w + 11) 2 1) (w + 11) 0 (A w 4))) with | ⟨A2, q2⟩ => pv_virt rfl rfl rfl rfl rfl (oX1_k (oX10_13c hw)) rfl rfl rfl (ev_eqM q2 (c_interrupt (v := (A w 4)) (c := (w + 11)) (A := A) (oX10_13c hw) )) (pn_iconst rfl rfl   (pv_istore_n rfl rfl   (pv_goto rfl ((H.2.2.2.2.2 c1) A2 q2))))))))))))))))))
theorem w97_53 {X : gv_X} {d : Nat} {G : gv_Sh} {A : Nat → Nat → Nat} {j : Nat → Nat → Int64} {cc : gv_Rs} {P : gv_O × gv_S → Prop} {w : Nat} {l2 : Nat} (hw : oX10 G w) (hp47 : oX4 G 47) (H : (l2 < 4294967296) ∧ ((A (w + 1) 0 ≤ 8) ∧ ((∀ z, z < A (w + 1) 0 → A ((w + 1) + 4) z ≤ 1) ∧ (((l2 < A (w + 1) 0 ∧ A ((w + 1) + 4) l2 = 1) → EvP X (d + 4) gvm_97 75 [some (.ref w), some (.ref 47), some (.int (nI l2)), none] [] (G, (mI A, j), cc) P) ∧ ((¬ (l2 < A (w + 1) 0 ∧ A ((w + 1) + 4) l2 = 1)) → (l2 < 4294967296) ∧ ((A (w + 1) 0 ≤ 8) ∧ ((∀ z, z < A (w + 1) 0 → A ((w + 1) + 5) z ≤ 1) ∧ (((¬ (l2 < A (w + 1) 0 ∧ A ((w + 1) + 5) l2 = 1)) → EvP X (d + 4) gvm_97 100 [some (.ref w), some (.ref 47), some (.int (nI l2)), none] [] (G, (mI A, j), cc) P) ∧ ((l2 < A (w + 1) 0 ∧ A ((w + 1) + 5) l2 = 1) → EvP X (d + 4) gvm_97 75 [some (.ref w), some (.ref 47), some (.int (nI l2)), none] [] (G, (mI A, j), cc) P))))))))) : EvP X (d + 4) gvm_97 53 [some (.ref w), some (.ref 47), some (.int (nI l2)), none] [] (G, (mI A, j), cc) P :=
  (pv_aload_n rfl rfl   (pv_getP rfl rfl (oX10_k hw) (oX10_0 hw)   (pv_iload_n rfl rfl   (pv_virt rfl rfl rfl rfl rfl (oX6_k (oX10_0c hw)) rfl rfl rfl (c_isGuarded (p := l2) (o := (w + 1)) (A := A) (oX10_0c hw) H.1 H.2.1 H.2.2.1 ) (pv_if_ne_dc rfl  (fun c1 => (H.2.2.2.1 c1)) (fun c1 => (pv_aload_n rfl rfl   (pv_getP rfl rfl (oX10_k hw) (oX10_0 hw)   (pv_iload_n rfl rfl   (pv_virt rfl rfl rfl rfl rfl (oX6_k (oX10_0c hw)) rfl rfl rfl (c_isPatched (p := l2) (o := (w + 1)) (A := A) (oX10_0c hw) (H.2.2.2.2 c1).1 (H.2.2.2.2 c1).2.1 (H.2.2.2.2 c1).2.2.1 ) (pv_if_eq_dc rfl  (fun c2 => ((H.2.2.2.2 c1).2.2.2.1 c2)) (fun c2 => ((H.2.2.2.2 c1).2.2.2.2 c2)))))))))))))
theorem w97_75 {X : gv_X} {d : Nat} {G : gv_Sh} {A : Nat → Nat → Nat} {j : Nat → Nat → Int64} {cc : gv_Rs} {P : gv_O × gv_S → Prop} {w : Nat} {l2 : Nat} (hw : oX10 G w) (hp47 : oX4 G 47) (H : (l2 < 4294967296) ∧ ((A (w + 1) 0 ≤ 8) ∧ ((∀ z, z < A (w + 1) 0 → A ((w + 1) + 1) z ≤ 3) ∧ ((∀ z i, z < A (w + 1) 0 → i < 3 → A ((w + 1) + 2) (z * 3 + i) < 4294967296 ∧ A ((w + 1) + 3) (z * 3 + i) ≤ 7) ∧ (((w + 11) + 2 ≤ (w + 1) ∨ (w + 1) + 6 ≤ (w + 11)) ∧ ((okM (cM A (w + 11))) ∧ ((∀ A1v1 : Nat → Nat → Nat, ((cM A1v1 (w + 11) = pfC A (w + 1) l2 0 (cM A (w + 11))) ∧ (frC A A1v1 (w + 11))) → EvP X (d + 4) gvm_97 88 [some (.ref w), some (.ref 47), some (.int (nI l2)), none] [] (G, (mI A1v1, j), cc) P)))))))) : EvP X (d + 4) gvm_97 75 [some (.ref w), some (.ref 47), some (.int (nI l2)), none] [] (G, (mI A, j), cc) P :=
  (pv_aload_n rfl rfl   (pv_getP rfl rfl (oX10_k hw) (oX10_13 hw)   (pv_aload_n rfl rfl   (pv_getP rfl rfl (oX10_k hw) (oX10_0 hw)   (pv_iload_n rfl rfl   (pn_iconst rfl rfl   (match (c_perform (p := l2) (f := 0) (c := (w + 11)) (o := (w + 1)) (A := A) (X := X) (d := d + 1) (G := G) (j := j) (cc := cc) (oX10_13c hw) (oX10_0c hw) H.1 (by decide) H.2.1 H.2.2.1 H.2.2.2.1 H.2.2.2.2.1 H.2.2.2.2.2.1 ) with | ⟨A1v1, e1x85, h1⟩ => pv_virt rfl rfl rfl rfl rfl (oX1_k (oX10_13c hw)) rfl rfl rfl e1x85 (H.2.2.2.2.2.2 A1v1 h1))))))))
theorem w97_88 {X : gv_X} {d : Nat} {G : gv_Sh} {A : Nat → Nat → Nat} {j : Nat → Nat → Int64} {cc : gv_Rs} {P : gv_O × gv_S → Prop} {w : Nat} {l2 : Nat} (hw : oX10 G w) (hp47 : oX4 G 47) (H : (A (w + 11) 0 ≤ 12) ∧ ((A (w + 11) 5 ≤ 1) ∧ ((∀ A1 : Nat → Nat → Nat, A1 = (gu A (w + 11) 0 (min 12 (A (w + 11) 0 + (if A (w + 11) 5 = 0 then 1 else 2)))) → EvP X (d + 4) gvm_97 106 [some (.ref w), some (.ref 47), some (.int (nI l2)), some (.int (nI 1))] [] (G, (mI A1, j), cc) P)))) : EvP X (d + 4) gvm_97 88 [some (.ref w), some (.ref 47), some (.int (nI l2)), none] [] (G, (mI A, j), cc) P :=
  (pv_aload_n rfl rfl   (pv_getP rfl rfl (oX10_k hw) (oX10_13 hw)   (match (⟨(gu A (w + 11) 0 (min 12 (A (w + 11) 0 + (if A (w + 11) 5 = 0 then 1 else 2)))), rfl⟩ : ∃ Z : Nat → Nat → Nat, Z = (gu A (w + 11) 0 (min 12 (A (w + 11) 0 + (if A (w + 11) 5 = 0 then 1 else 2))))) with | ⟨A1, q1⟩ => pv_virt rfl rfl rfl rfl rfl (oX1_k (oX10_13c hw)) rfl rfl rfl (ev_eqM q1 (c_goOn (c := (w + 11)) (A := A) (oX10_13c hw) H.1 H.2.1 )) (pn_iconst rfl rfl   (pv_istore_n rfl rfl   (pv_goto rfl (H.2.2 A1 q1)))))))
theorem w97_100 {X : gv_X} {d : Nat} {G : gv_Sh} {A : Nat → Nat → Nat} {j : Nat → Nat → Int64} {cc : gv_Rs} {P : gv_O × gv_S → Prop} {w : Nat} {l2 : Nat} {R : Nat → Nat} (hw : oX10 G w) (hp47 : oX4 G 47) (H : (okW R) ∧ ((rW A w R) ∧ ((l2 < R 0) ∧ ((∀ A1v1 : Nat → Nat → Nat, ((rW A1v1 w (leR R 1 l2)) ∧ (∀ q, q ≠ w + 11 → q ≠ w + 11 + 1 → A1v1 q = A q)) → EvP X (d + 4) gvm_97 106 [some (.ref w), some (.ref 47), some (.int (nI l2)), some (.int (nI (if (mOp 0 R l2 (gM R 1 0 (R 5))).2.1 = 1 then 2 else 5)))] [] (G, (mI A1v1, j), cc) P))))) : EvP X (d + 4) gvm_97 100 [some (.ref w), some (.ref 47), some (.int (nI l2)), none] [] (G, (mI A, j), cc) P :=
  (pv_aload_n rfl rfl   (pv_iload_n rfl rfl   (match (c_letThrough (p := l2) (R := R) (w := w) (A := A) (X := X) (d := d + 0) (G := G) (j := j) (cc := cc) hw H.1 H.2.1 H.2.2.1 ) with | ⟨A1v1, e1x102, h1⟩ => pv_virt rfl rfl rfl rfl rfl (oX10_k hw) rfl rfl rfl e1x102 (pv_istore_n rfl rfl   (H.2.2.2 A1v1 h1)))))
theorem w97_106 {X : gv_X} {d : Nat} {G : gv_Sh} {A : Nat → Nat → Nat} {j : Nat → Nat → Int64} {cc : gv_Rs} {P : gv_O × gv_S → Prop} {w : Nat} {l2 : Nat} {l3 : Nat} {R : Nat → Nat} (hw : oX10 G w) (hp47 : oX4 G 47) (H : (l3 < 4294967296) ∧ (((¬ (l3 ≤ 1)) → (∀ A2 : Nat → Nat → Nat, A2 = (gu A (w + 11) 4 ((A (w + 11) 4 + 1) % 8)) → EvP X (d + 4) gvm_97 139 [some (.ref w), some (.ref 47), some (.int (nI l2)), some (.int (nI l3))] [] (G, (mI A2, j), cc) P)) ∧ ((l3 ≤ 1) → (okW R) ∧ ((rO A (w + 1) R) ∧ ((rP A w R) ∧ ((okLw R) ∧ ((rRu A 48 R) ∧ ((stT A R) ∧ ((smI A R) ∧ ((l2 < R 0) ∧ ((w + 15 ≤ 47) ∧ ((∀ A1v3 : Nat → Nat → Nat, ((smI A1v3 R) ∧ (∀ a, (a < 61 ∨ 63 < a) → A1v3 a = A a)) → (∀ A4 : Nat → Nat → Nat, A4 = (gu A1v3 (w + 11) 4 ((A1v3 (w + 11) 4 + ((1 + (A w 6)) + (lsum R (tbF R l2) l2 0))) % 8)) → EvP X (d + 4) gvm_97 139 [some (.ref w), some (.ref 47), some (.int (nI l2)), some (.int (nI l3))] [] (G, (mI A4, j), cc) P)))))))))))))) : EvP X (d + 4) gvm_97 106 [some (.ref w), some (.ref 47), some (.int (nI l2)), some (.int (nI l3))] [] (G, (mI A, j), cc) P :=
  (pv_aload_n rfl rfl   (pv_getP rfl rfl (oX10_k hw) (oX10_13 hw)   (pv_aload_n rfl rfl   (pv_iload_n rfl rfl   (pv_virt rfl rfl rfl rfl rfl (oX10_k hw) rfl rfl rfl (c_isTrap (k := l3) (w := w) (A := A) hw H.1 ) (pv_if_eq_dc rfl  (fun c1 => (pn_iconst rfl rfl   (match (⟨(gu A (w + 11) 4 ((A (w + 11) 4 + 1) % 8)), rfl⟩ : ∃ Z : Nat → Nat → Nat, Z = (gu A (w + 11) 4 ((A (w + 11) 4 + 1) % 8))) with | ⟨A2, q2⟩ => pv_virt rfl rfl rfl rfl rfl (oX1_k (oX10_13c hw)) rfl rfl rfl (ev_eqM q2 (c_spend (t := 1) (c := (w + 11)) (A := A) (oX10_13c hw) )) ((H.2.1 c1) A2 q2)))) (fun c1 => (pn_iconst rfl rfl   (pv_aload_n rfl rfl   (pn_getI rfl rfl (oX10_k hw) rfl   (pn_iadd rfl   (pv_aload_n rfl rfl   (pv_aload_n rfl rfl   (pv_iload_n rfl rfl   (pn_iconst rfl rfl   (match (c_lsum (p := l2) (so := 0) (R := R) (w := w) (A := A) (X := X) (d := d + 0) (G := G) (j := j) (cc := cc) hp47 hw (H.2.2 c1).1 (H.2.2 c1).2.1 (H.2.2 c1).2.2.1 (H.2.2 c1).2.2.2.1 (H.2.2 c1).2.2.2.2.1 (H.2.2 c1).2.2.2.2.2.1 (H.2.2 c1).2.2.2.2.2.2.1 (H.2.2 c1).2.2.2.2.2.2.2.1 (by decide) (H.2.2 c1).2.2.2.2.2.2.2.2.1 ) with | ⟨A1v3, e4x128, h3⟩ => pv_virt rfl rfl rfl rfl rfl (oX4_k hp47) rfl rfl rfl e4x128 (pn_iadd rfl   (pv_goto rfl (match (⟨(gu A1v3 (w + 11) 4 ((A1v3 (w + 11) 4 + ((1 + (A w 6)) + (lsum R (tbF R l2) l2 0))) % 8)), rfl⟩ : ∃ Z : Nat → Nat → Nat, Z = (gu A1v3 (w + 11) 4 ((A1v3 (w + 11) 4 + ((1 + (A w 6)) + (lsum R (tbF R l2) l2 0))) % 8))) with | ⟨A4, q4⟩ => pv_virt rfl rfl rfl rfl rfl (oX1_k (oX10_13c hw)) rfl rfl rfl (ev_eqM q4 (c_spend (t := ((1 + (A w 6)) + (lsum R (tbF R l2) l2 0))) (c := (w + 11)) (A := A1v3) (oX10_13c hw) )) (((H.2.2 c1).2.2.2.2.2.2.2.2.2 A1v3 h3) A4 q4))))))))))))))))))))
theorem w97_139 {X : gv_X} {d : Nat} {G : gv_Sh} {A : Nat → Nat → Nat} {j : Nat → Nat → Int64} {cc : gv_Rs} {P : gv_O × gv_S → Prop} {w : Nat} {l2 : Nat} {l3 : Nat} (hw : oX10 G w) (hp47 : oX4 G 47) (H : P (.inl (some (.int (nI l3))), (G, (mI A, j), cc))) : EvP X (d + 4) gvm_97 139 [some (.ref w), some (.ref 47), some (.int (nI l2)), some (.int (nI l3))] [] (G, (mI A, j), cc) P :=
  (pv_iload_n rfl rfl   (pv_ireti rfl rfl H))
theorem c_stepHosted_p {X : gv_X} {d : Nat} {G : gv_Sh} {A : Nat → Nat → Nat} {j : Nat → Nat → Int64} {cc : gv_Rs} {P : gv_O × gv_S → Prop} {w : Nat} {R : Nat → Nat} (hw : oX10 G w) (hp47 : oX4 G 47) (p0 : okW R) (p1 : rW A w R) (p2 : lg A R) (p3 : w + 15 ≤ 47) (hP : ∀ A1 : Nat → Nat → Nat, (rW A1 w (hoR R (tbF R))) ∧ (lg A1 R) ∧ (∀ q, q ≠ w + 11 → q ≠ w + 11 + 1 → (q < 61 ∨ 63 < q) → A1 q = A q) → P (.inl (some (.int (nI (caN R)))), (G, (mI A1, j), cc))) : EvP X (d + 4) gvm_97 0 (gv_enter [.ref w, .ref 47] 4) [] (G, (mI A, j), cc) P := by
  have n := okW_n p0
  have g1 := okW_g p0 (g := 1) (by omega)
  have r := p1
  obtain ⟨r1, r2, r3, r4, r5, r6, r7⟩ := p1
  have co := rC_ok r6 p0 (by omega)
  have e0 := r6.1
  refine w97 hw hp47 ⟨by omega, by rw [r2.1]; exact n.2.2.2.1, ?_⟩
  rw [rW_op r, e0]
  by_cases z : R (102 + 13 * 1 + 0) < R 3
  · rw [if_pos z, show R (12 + R (102 + 13 * 1 + 0)) = hoP R from rfl]
    have hpl : hoP R < R 0 := okW_pl p0 z
    have hp8 : hoP R < 8 := by omega
    have gx := eqG_hb R
    have okB : okW (hoB R) := by
      unfold hoB
      split
      · exact okW_ct p0 (by omega)
      split
      · exact okW_do p0 (by omega) hp8
      · exact okW_le p0 (by omega) hp8
    have eh : hoR R (tbF R) = ckR (hoB R) 1 (1 + (if hoW R ≤ 1 then R 6 + lsum R (tbF R (hoP R)) (hoP R) 0 else 0)) := by
      unfold hoR; rw [if_neg (by omega)]
    have s106 : ∀ B x, rW B w (hoB R) → (∀ q, q ≠ w + 11 → q ≠ w + 11 + 1 → B q = A q) → x = caN R → EvP X (d + 4) gvm_97 106 [some (.ref w), some (.ref 47), some (.int (nI (hoP R))), some (.int (nI x))] [] (G, (mI B, j), cc) P := fun B x h1 h2 h3 => by
      have lB : lg B (hoB R) := lg_X p0 (lg_of p2 (fun q hq => h2 q (by omega) (by omega))) (eqG_X gx)
      have ll := lsum_le (t := tbF (hoB R) (hoP R)) (p := hoP R) (w := 0) lB.1
      have e6 : B w 6 = R 6 := by rw [h2 w (by omega) (by omega)]; exact r4.2.2.1
      have cl := caN_lt R
      have ch := (caN_ho R).1
      refine w97_106 (R := hoB R) hw hp47 ⟨by omega, fun c1 C q2 => w97_139 hw hp47 (qn (hP C ⟨?_, ?_, ?_⟩) h3.symm), fun c1 => ⟨okB, h1.1, h1.2.1, lB.1, lB.2.1, lB.2.2.1, lB.2.2.2, ?_, p3, fun C h4 D q4 => w97_139 hw hp47 (qn (hP D ⟨?_, ?_, ?_⟩) h3.symm)⟩⟩
      · rw [eh, if_neg (fun y => c1 (by rw [h3]; exact ch.mpr y)), q2]
        exact rW_h h1 okB (fun i hi => by unfold ckR; rw [if_neg (by omega)]) (rC_ck h1.2.2.2.2.2.1) (fun q a b => gu_row a)
      · rw [q2]; exact lg_of p2 (fun q hq => by rw [gu_row (by omega)]; exact h2 q (by omega) (by omega))
      · exact fun q a b c => by rw [q2, gu_row a]; exact h2 q a b
      · rw [gx 0 (by omega)]; exact hpl
      · have es : lsum (hoB R) (tbF (hoB R) (hoP R)) (hoP R) 0 = lsum R (tbF R (hoP R)) (hoP R) 0 := by
          rw [lsum_G gx hp8 n.2.2.2.1, tbF_S p0 (eqX_S (eqG_X gx)) hp8]
        have h1' : rW C w (hoB R) := rW_fr h1 (fun q a b => h4.2 q (by omega))
        rw [eh, if_pos (ch.mp (by rw [← h3]; exact c1)), q4, e6, es, show 1 + R 6 + lsum R (tbF R (hoP R)) (hoP R) 0 = 1 + (R 6 + lsum R (tbF R (hoP R)) (hoP R) 0) by omega]
        exact rW_h h1' okB (fun i hi => by unfold ckR; rw [if_neg (by omega)]) (rC_ck h1'.2.2.2.2.2.1) (fun q a b => gu_row a)
      · have lC : lg C (hoB R) := ⟨lB.1, rRu_of lB.2.1 (fun a x y => h4.2 a (by omega)), stT_of lB.2.2.1 (h4.2 56 (by omega)), h4.1⟩
        rw [q4]
        exact lg_of (lg_X okB lC (fun i hi => (gx i (by omega)).symm)) (fun q hq => gu_row (by omega))
      · exact fun q a b c => by rw [q4, gu_row a, h4.2 q c]; exact h2 q a b
    refine w97_12 hw hp47 ⟨by omega, fun c1 => ?_, fun c1 => absurd c1 (by omega)⟩
    have cnd : (A (w + 11) 2 = 0 ∧ hoP R < A (w + 1) 0 ∧ A (w + 1 + 4) (hoP R) = 1) ↔ trp R (hoP R) (R (102 + 13 * 1 + 2)) = true := by
      unfold trp
      rw [Bool.and_eq_true, decide_eq_true_eq, decide_eq_true_eq, r6.2.2.1]
      exact ⟨fun y => ⟨(rO_gd r1 hpl).mp y.2, y.1⟩, fun y => ⟨y.2, (rO_gd r1 hpl).mpr y.1⟩⟩
    have s75 : ¬ trp R (hoP R) (R (102 + 13 * 1 + 2)) = true → (R (30 + 9 * hoP R + 1) = 1 ∨ R (30 + 9 * hoP R + 2) = 1) → EvP X (d + 4) gvm_97 75 [some (.ref w), some (.ref 47), some (.int (nI (hoP R))), none] [] (G, (mI A, j), cc) P := fun tf gp => by
      have eb : hoB R = doR R 1 (hoP R) := by unfold hoB; rw [if_neg tf, if_pos gp]
      have ec : 1 = caN R := by unfold caN; rw [if_neg (by omega), if_neg tf, if_pos gp]
      refine w97_75 hw hp47 ⟨by omega, rO_n r1 p0, rO_s r1 p0, rO_7 r1 p0, by omega, co.1, fun B h1 => w97_88 hw hp47 ⟨by rw [h1.2.2]; exact co.2, ?_, fun C q1 => s106 C 1 ?_ (fun q a b => by rw [q1, gu_row a]; exact h1.2.1 q a b) ec⟩⟩
      · have h2 : okM (cM B (w + 11)) := by rw [h1.1, rO_pf r1 hpl]; exact okM_op p0 hp8 co.1
        exact h2.2.2.2.2.1
      · rw [eb]
        refine rW_h r p0 (fun i hi => ?_) (by rw [q1]; exact rC_do r6 p0 (by omega) hp8 (by rw [h1.1, rO_pf r1 hpl]) h1.2.2) (fun q a b => by rw [q1, gu_row a]; exact h1.2.1 q a b)
        unfold doR goR mdR
        rw [if_neg (by omega), if_neg (by omega), if_neg (by omega), if_neg (by omega), if_neg (by omega)]
    refine w97_19 hw hp47 ⟨by omega, by have := r6.2.2.1; omega, rO_n r1 p0, rO_g r1 p0, fun c2 => ?_, fun c2 B q2 => ?_⟩
    · have tf : ¬ trp R (hoP R) (R (102 + 13 * 1 + 2)) = true := fun y => c2 (cnd.mpr y)
      refine w97_53 hw hp47 ⟨by omega, rO_n r1 p0, rO_g r1 p0, fun c3 => s75 tf (Or.inl ((rO_gd r1 hpl).mp c3)), fun c3 => ⟨by omega, rO_n r1 p0, rO_p r1 p0, fun c4 => ?_, fun c4 => s75 tf (Or.inr ((rO_pt r1 hpl).mp c4))⟩⟩
      have gp : ¬ (R (30 + 9 * hoP R + 1) = 1 ∨ R (30 + 9 * hoP R + 2) = 1) := fun y => y.elim (fun y => c3 ((rO_gd r1 hpl).mpr y)) (fun y => c4 ((rO_pt r1 hpl).mpr y))
      have eb : hoB R = leR R 1 (hoP R) := by unfold hoB; rw [if_neg tf, if_neg gp]
      have ec : caN R = (if (mOp 0 R (hoP R) (gM R 1 0 (R 5))).2.1 = 1 then 2 else 5) := by unfold caN; rw [if_neg (by omega), if_neg tf, if_neg gp]
      exact w97_100 (R := R) hw hp47 ⟨p0, r, hpl, fun B h1 => s106 B _ (by rw [eb]; exact h1.1) h1.2 ec.symm⟩
    · have eb : hoB R = ctR R 1 := by unfold hoB; rw [if_pos (cnd.mp c2)]
      have ec : 0 = caN R := by unfold caN; rw [if_neg (by omega), if_pos (cnd.mp c2)]
      refine s106 B 0 ?_ (fun q a b => by rw [q2, gu_row a, gu_row a]) ec
      rw [eb]
      refine rW_h r p0 (fun i hi => ?_) (by rw [q2]; exact rC_ct r6 r4.1) (fun q a b => by rw [q2, gu_row a, gu_row a])
      unfold ctR
      rw [if_neg (by omega), if_neg (by omega)]
  · rw [if_neg z]
    have eb : hoR R (tbF R) = R := by unfold hoR; rw [if_pos (by omega)]
    have ec : caN R = 4294967295 := by unfold caN; rw [if_pos (by omega)]
    rw [eb, ec] at hP
    exact w97_12 hw hp47 ⟨by omega, fun c1 => absurd rfl c1, fun c1 => hP A ⟨r, p2, fun _ _ _ _ => rfl⟩⟩
theorem c_stepHosted {X : gv_X} {d : Nat} {G : gv_Sh} {A : Nat → Nat → Nat} {j : Nat → Nat → Int64} {cc : gv_Rs} {w : Nat} {R : Nat → Nat} (hw : oX10 G w) (hp47 : oX4 G 47) (p0 : okW R) (p1 : rW A w R) (p2 : lg A R) (p3 : w + 15 ≤ 47) : ∃ A1 : Nat → Nat → Nat, Ev X (d + 4) gvm_97 0 (gv_enter [.ref w, .ref 47] 4) [] (G, (mI A, j), cc) (.inl (some (.int (nI (caN R)))), (G, (mI A1, j), cc)) ∧ (rW A1 w (hoR R (tbF R))) ∧ (lg A1 R) ∧ (∀ q, q ≠ w + 11 → q ≠ w + 11 + 1 → (q < 61 ∨ 63 < q) → A1 q = A q) := by
  obtain ⟨_, h, A1, rfl, hp⟩ := c_stepHosted_p (X := X) (d := d) (G := G) (A := A) (j := j) (cc := cc) (w := w) (R := R) (P := fun r => ∃ A1 : Nat → Nat → Nat, r = (.inl (some (.int (nI (caN R)))), (G, (mI A1, j), cc)) ∧ (rW A1 w (hoR R (tbF R))) ∧ (lg A1 R) ∧ (∀ q, q ≠ w + 11 → q ≠ w + 11 + 1 → (q < 61 ∨ 63 < q) → A1 q = A q)) hw hp47 p0 p1 p2 p3 (fun A1 h => ⟨A1, rfl, h⟩)
  exact ⟨A1, h, hp⟩
theorem w100 {X : gv_X} {d : Nat} {G : gv_Sh} {A : Nat → Nat → Nat} {j : Nat → Nat → Int64} {cc : gv_Rs} {P : gv_O × gv_S → Prop} {w : Nat} (hw : oX10 G w) (H : ((((1103515245 * (A w 10) % 4294967296) + 12345) % 4294967296) < 4294967296) ∧ (P (.inl (some (.int (nI (((((1103515245 * (A w 10) % 4294967296) + 12345) % 4294967296) / 2 ^ 16) % 32768)))), (G, (mI (gu A w 10 (((1103515245 * (A w 10) % 4294967296) + 12345) % 4294967296)), j), cc)))) : EvP X (d + 0) gvm_100 0 (gv_enter [.ref w] 1) [] (G, (mI A, j), cc) P :=
  (pv_aload_n rfl rfl   (pn_ldc rfl rfl   (pv_aload_n rfl rfl   (pn_getI rfl rfl (oX10_k hw) rfl   (pn_imulw rfl   (pn_sipush rfl rfl   (pn_iaddw rfl   (pn_putI rfl rfl (oX10_k hw)   (pv_aload_n rfl rfl   (pn_getI rfl rfl (oX10_k hw) (gu_hit _ _ _ _)   (pn_bipush rfl rfl   (pn_iushr rfl H.1 (by decide)  (pn_sipush rfl rfl   (pn_iandm 15 32768 rfl rfl rfl   (pv_ireti rfl rfl H.2)))))))))))))))
theorem c_draw_p {X : gv_X} {d : Nat} {G : gv_Sh} {A : Nat → Nat → Nat} {j : Nat → Nat → Int64} {cc : gv_Rs} {P : gv_O × gv_S → Prop} {w : Nat} (hw : oX10 G w)  (hP : P (.inl (some (.int (nI (sdN (A w 10) / 65536 % 32768)))), (G, (mI (gu A w 10 (sdN (A w 10))), j), cc))) : EvP X (d + 0) gvm_100 0 (gv_enter [.ref w] 1) [] (G, (mI A, j), cc) P := by
  refine w100 hw ⟨?_, hP⟩
  omega
theorem c_draw {X : gv_X} {d : Nat} {G : gv_Sh} {A : Nat → Nat → Nat} {j : Nat → Nat → Int64} {cc : gv_Rs} {w : Nat} (hw : oX10 G w)  : Ev X (d + 0) gvm_100 0 (gv_enter [.ref w] 1) [] (G, (mI A, j), cc) (.inl (some (.int (nI (sdN (A w 10) / 65536 % 32768)))), (G, (mI (gu A w 10 (sdN (A w 10))), j), cc)) := evp_det (c_draw_p hw  rfl)
