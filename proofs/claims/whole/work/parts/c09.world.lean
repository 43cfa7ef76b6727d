/-! the class: World, what it holds -/
def rC (A : Nat → Nat → Nat) (c : Nat) (R : Nat → Nat) (g : Nat) : Prop := A c 0 = R (102 + 13 * g + 0) ∧ A c 1 = R (102 + 13 * g + 1) ∧ A c 2 = R (102 + 13 * g + 2) ∧ A c 3 = R (102 + 13 * g + 3) ∧ A c 4 = R (102 + 13 * g + 4) ∧ A c 5 ≤ 1 ∧ ∀ k, k < 8 → A (c + 1) k = R (102 + 13 * g + (5 + k))
def rN (A : Nat → Nat → Nat) (w : Nat) (R : Nat → Nat) : Prop := A w 4 = R 4 ∧ A w 5 = R 5 ∧ A w 6 = R 6 ∧ A w 7 = R 7 ∧ A w 8 = R 8 ∧ A w 9 = R 9 ∧ A w 10 = R 11 ∧ A w 11 = R 1
def rW (A : Nat → Nat → Nat) (w : Nat) (R : Nat → Nat) : Prop := rO A (w + 1) R ∧ rP A w R ∧ (∀ k, k < 8 → A (w + 8) k = R (22 + k)) ∧ rN A w R ∧ rC A (w + 9) R 0 ∧ rC A (w + 11) R 1 ∧ rL A (w + 13) R
theorem rC_of {A B : Nat → Nat → Nat} {c : Nat} {R : Nat → Nat} {g : Nat} (h : rC A c R g) (e : B c = A c) (e2 : B (c + 1) = A (c + 1)) : rC B c R g := by
  unfold rC; rw [e, e2]; exact h
theorem rC_R {A : Nat → Nat → Nat} {c : Nat} {R S : Nat → Nat} {g : Nat} (h : rC A c R g) (e : ∀ i, i < 13 → S (102 + 13 * g + i) = R (102 + 13 * g + i)) : rC A c S g := by
  unfold rC
  rw [e 0 (by omega), e 1 (by omega), e 2 (by omega), e 3 (by omega), e 4 (by omega)]
  exact ⟨h.1, h.2.1, h.2.2.1, h.2.2.2.1, h.2.2.2.2.1, h.2.2.2.2.2.1, fun k hk => by rw [e _ (by omega)]; exact h.2.2.2.2.2.2 k hk⟩
theorem rP_of {A B : Nat → Nat → Nat} {w : Nat} {R : Nat → Nat} (h : rP A w R) (e : B w 2 = A w 2) (e2 : B (w + 7) = A (w + 7)) : rP B w R := by
  unfold rP; rw [e, e2]; exact h
theorem rP_R {A : Nat → Nat → Nat} {w : Nat} {R S : Nat → Nat} (h : rP A w R) (o : R 3 ≤ 10) (e : ∀ i, i = 3 ∨ (12 ≤ i ∧ i < 22) → S i = R i) : rP A w S := by
  unfold rP
  rw [e 3 (by omega)]
  exact ⟨h.1, fun k hk => by rw [e _ (by omega)]; exact h.2 k hk⟩
theorem rW_fr {A B : Nat → Nat → Nat} {w : Nat} {R : Nat → Nat} (h : rW A w R) (e : ∀ q, w ≤ q → q ≤ w + 14 → B q = A q) : rW B w R := by
  obtain ⟨h1, h2, h3, h4, h5, h6, h7⟩ := h
  refine ⟨rO_fr h1 (fun a x y => e a (by omega) (by omega)), rP_of h2 (by rw [e w (by omega) (by omega)]) (e _ (by omega) (by omega)), ?_, ?_, rC_of h5 (e _ (by omega) (by omega)) (e _ (by omega) (by omega)), rC_of h6 (e _ (by omega) (by omega)) (e _ (by omega) (by omega)), rL_of h7 (e _ (by omega) (by omega)) (e _ (by omega) (by omega))⟩
  · rw [e (w + 8) (by omega) (by omega)]; exact h3
  · unfold rN; rw [e w (by omega) (by omega)]; exact h4
/-- a row that is the same but for one guest -/
theorem rW_b {A B : Nat → Nat → Nat} {w : Nat} {R S : Nat → Nat} (h : rW A w R) (o : okW R) (e : ∀ i, ¬ (102 ≤ i ∧ i < 115) → S i = R i) (hc : rC B (w + 9) S 0) (hf : ∀ q, q ≠ w + 9 → q ≠ w + 9 + 1 → B q = A q) : rW B w S := by
  have n := okW_n o
  obtain ⟨h1, h2, h3, h4, h5, h6, h7⟩ := h
  refine ⟨rO_X (rO_fr h1 (fun a x y => hf a (by omega) (by omega))) o (fun i hi => e i (by omega)), rP_R (rP_of h2 (by rw [hf w (by omega) (by omega)]) (hf _ (by omega) (by omega))) n.2.2.2.1 (fun i hi => e i (by omega)), fun k hk => ?_, ?_, hc, rC_R (rC_of h6 (hf _ (by omega) (by omega)) (hf _ (by omega) (by omega))) (fun i hi => e _ (by omega)), rL_R (rL_of h7 (hf _ (by omega) (by omega)) (hf _ (by omega) (by omega))) n.2.2.2.2.2.2.2.2.2.2.2.1 (fun i hi => e i (by omega))⟩
  · rw [hf (w + 8) (by omega) (by omega), e _ (by omega)]; exact h3 k hk
  · unfold rN
    rw [hf w (by omega) (by omega), e 4 (by omega), e 5 (by omega), e 6 (by omega), e 7 (by omega), e 8 (by omega), e 9 (by omega), e 11 (by omega), e 1 (by omega)]
    exact h4
theorem rW_h {A B : Nat → Nat → Nat} {w : Nat} {R S : Nat → Nat} (h : rW A w R) (o : okW R) (e : ∀ i, ¬ (115 ≤ i ∧ i < 128) → S i = R i) (hc : rC B (w + 11) S 1) (hf : ∀ q, q ≠ w + 11 → q ≠ w + 11 + 1 → B q = A q) : rW B w S := by
  have n := okW_n o
  obtain ⟨h1, h2, h3, h4, h5, h6, h7⟩ := h
  refine ⟨rO_X (rO_fr h1 (fun a x y => hf a (by omega) (by omega))) o (fun i hi => e i (by omega)), rP_R (rP_of h2 (by rw [hf w (by omega) (by omega)]) (hf _ (by omega) (by omega))) n.2.2.2.1 (fun i hi => e i (by omega)), fun k hk => ?_, ?_, rC_R (rC_of h5 (hf _ (by omega) (by omega)) (hf _ (by omega) (by omega))) (fun i hi => e _ (by omega)), hc, rL_R (rL_of h7 (hf _ (by omega) (by omega)) (hf _ (by omega) (by omega))) n.2.2.2.2.2.2.2.2.2.2.2.1 (fun i hi => e i (by omega))⟩
  · rw [hf (w + 8) (by omega) (by omega), e _ (by omega)]; exact h3 k hk
  · unfold rN
    rw [hf w (by omega) (by omega), e 4 (by omega), e 5 (by omega), e 6 (by omega), e 7 (by omega), e 8 (by omega), e 9 (by omega), e 11 (by omega), e 1 (by omega)]
    exact h4
theorem rC_ok {A : Nat → Nat → Nat} {c : Nat} {R : Nat → Nat} {g : Nat} (h : rC A c R g) (o : okW R) (hg : g < 2) : okM (cM A c) ∧ A c 0 ≤ 12 := by
  obtain ⟨h0, h1, h2, h3, h4, h5, h6⟩ := h
  have b := okW_g o hg
  refine ⟨⟨?_, ?_, ⟨?_, ?_⟩, ?_, h5, fun k hk => ?_⟩, ?_⟩
  · show A c 1 ≤ 3; omega
  · show A c 2 ≤ 1; omega
  · show A c 3 ≤ 6; omega
  · show A c 3 % 2 = 0; omega
  · show A c 4 ≤ 7; omega
  · show A (c + 1) k ≤ 3
    rw [h6 k hk]; exact okW_gc o hg hk
  · omega
theorem rC_gM {A : Nat → Nat → Nat} {c : Nat} {R : Nat → Nat} {g : Nat} (h : rC A c R g) (o : okW R) (hg : g < 2) : eqM (mSk0 (cM A c)) (mSk0 (gM R g (R (102 + 13 * g + 2)) 0)) := by
  obtain ⟨h0, h1, h2, h3, h4, h5, h6⟩ := h
  have b := okW_g o hg
  refine ⟨h1, h2, ?_, h4, rfl, fun k hk => ?_⟩
  · show A c 3 = (R (102 + 13 * g + 3) + 0) % 8
    omega
  · show A (c + 1) k = R (102 + 13 * g + (5 + (k + 8 - 0) % 8))
    rw [h6 k hk, show (k + 8 - 0) % 8 = k by omega]
/-- a world copied so far -/
def cpI (A B : Nat → Nat → Nat) (w v n : Nat) : Prop := (B (w + 1) 0 = A (v + 1) 0 ∧ (∀ k, k < 8 → B (w + 1 + 1) k = A (v + 1 + 1) k ∧ B (w + 1 + 4) k = A (v + 1 + 4) k ∧ B (w + 1 + 5) k = A (v + 1 + 5) k) ∧ ∀ k, k < 24 → B (w + 1 + 2) k = A (v + 1 + 2) k ∧ B (w + 1 + 3) k = A (v + 1 + 3) k) ∧ (1 ≤ n → ∀ k, k < 10 → B (w + 7) k = A (v + 7) k) ∧ (2 ≤ n → B w 2 = A v 2) ∧ (3 ≤ n → ∀ k, k < 8 → B (w + 8) k = A (v + 8) k) ∧ (∀ k, 4 ≤ k → k < n → B w k = A v k) ∧ ∀ q, (q < w ∨ w + 8 < q) → B q = A q
theorem cpI_u {A B : Nat → Nat → Nat} {w v n : Nat} (h : cpI A B w v n) (hn : 4 ≤ n) (hs : w + 15 ≤ v ∨ v + 15 ≤ w) : cpI A (gu B w n (B v n)) w v (n + 1) := by
  obtain ⟨h1, h2, h3, h4, h5, h6⟩ := h
  have r : ∀ a, gu B w n (B v n) (w + (a + 1)) = B (w + (a + 1)) := fun a => gu_row (by omega)
  refine ⟨?_, fun _ => ?_, fun _ => ?_, fun _ => ?_, fun k a b => ?_, fun q hq => ?_⟩
  · rw [gu_row (show w + 1 ≠ w by omega), gu_row (show w + 1 + 1 ≠ w by omega), gu_row (show w + 1 + 2 ≠ w by omega), gu_row (show w + 1 + 3 ≠ w by omega), gu_row (show w + 1 + 4 ≠ w by omega), gu_row (show w + 1 + 5 ≠ w by omega)]
    exact h1
  · rw [gu_row (show w + 7 ≠ w by omega)]; exact h2 (by omega)
  · rw [gu_k (by omega) rfl]; exact h3 (by omega)
  · rw [gu_row (show w + 8 ≠ w by omega)]; exact h4 (by omega)
  · by_cases e : k = n
    · rw [e, gu_hit, h6 v (by omega)]
    · rw [gu_k e rfl]; exact h5 k a (by omega)
  · rw [gu_row (by omega)]; exact h6 q hq
theorem w90 {X : gv_X} {d : Nat} {G : gv_Sh} {A : Nat → Nat → Nat} {j : Nat → Nat → Int64} {cc : gv_Rs} {P : gv_O × gv_S → Prop} {w : Nat} {v : Nat} (hw : oX10 G w) (hv : oX10 G v) (H : ((w + 1) + 6 ≤ (v + 1) ∨ (v + 1) + 6 ≤ (w + 1)) ∧ ((∀ A1v1 : Nat → Nat → Nat, ((cpO A A1v1 (w + 1) (v + 1))) → EvP X (d + 1) gvm_90 11 [some (.ref w), some (.ref v)] [] (G, (mI A1v1, j), cc) P))) : EvP X (d + 1) gvm_90 0 (gv_enter [.ref w, .ref v] 2) [] (G, (mI A, j), cc) P :=
  (pv_aload_n rfl rfl   (pv_getP rfl rfl (oX10_k hw) (oX10_0 hw)   (pv_aload_n rfl rfl   (pv_getP rfl rfl (oX10_k hv) (oX10_0 hv)   (match (c_copyOps (o := (w + 1)) (q := (v + 1)) (A := A) (X := X) (d := d + 0) (G := G) (j := j) (cc := cc) (oX10_0c hw) (oX10_0c hv) H.1 ) with | ⟨A1v1, e1x8, h1⟩ => pv_virt rfl rfl rfl rfl rfl (oX6_k (oX10_0c hw)) rfl rfl rfl e1x8 (H.2 A1v1 h1))))))
theorem w90_11 {X : gv_X} {d : Nat} {G : gv_Sh} {A : Nat → Nat → Nat} {j : Nat → Nat → Int64} {cc : gv_Rs} {P : gv_O × gv_S → Prop} {w : Nat} {v : Nat} (hw : oX10 G w) (hv : oX10 G v) (H : (0 + 10 ≤ 10) ∧ ((0 + 10 ≤ 10) ∧ (EvP X (d + 1) gvm_90 26 [some (.ref w), some (.ref v)] [] (G, (mI (gw A (w + 7) (va_cpy (A (v + 7)) (A (w + 7)) 0 0 10)), j), cc) P))) : EvP X (d + 1) gvm_90 11 [some (.ref w), some (.ref v)] [] (G, (mI A, j), cc) P :=
  (pv_aload_n rfl rfl   (pv_getP rfl rfl (oX10_k hv) (oX10_1 hv)   (pn_iconst rfl rfl   (pv_aload_n rfl rfl   (pv_getP rfl rfl (oX10_k hw) (oX10_1 hw)   (pn_iconst rfl rfl   (pn_bipush rfl rfl   (pn_copy rfl rfl (oX10_1c hv) (oX10_1c hw) (by decide) (by decide) H.1 H.2.1 rfl H.2.2))))))))
theorem w90_26 {X : gv_X} {d : Nat} {G : gv_Sh} {A : Nat → Nat → Nat} {j : Nat → Nat → Int64} {cc : gv_Rs} {P : gv_O × gv_S → Prop} {w : Nat} {v : Nat} (hw : oX10 G w) (hv : oX10 G v) (H : EvP X (d + 1) gvm_90 34 [some (.ref w), some (.ref v)] [] (G, (mI (gu A w 2 (A v 2)), j), cc) P) : EvP X (d + 1) gvm_90 26 [some (.ref w), some (.ref v)] [] (G, (mI A, j), cc) P :=
  (pv_aload_n rfl rfl   (pv_aload_n rfl rfl   (pn_getI rfl rfl (oX10_k hv) rfl   (pn_putI rfl rfl (oX10_k hw)   H))))
theorem w90_34 {X : gv_X} {d : Nat} {G : gv_Sh} {A : Nat → Nat → Nat} {j : Nat → Nat → Int64} {cc : gv_Rs} {P : gv_O × gv_S → Prop} {w : Nat} {v : Nat} (hw : oX10 G w) (hv : oX10 G v) (H : (0 + 8 ≤ 8) ∧ ((0 + 8 ≤ 8) ∧ (EvP X (d + 1) gvm_90 49 [some (.ref w), some (.ref v)] [] (G, (mI (gw A (w + 8) (va_cpy (A (v + 8)) (A (w + 8)) 0 0 8)), j), cc) P))) : EvP X (d + 1) gvm_90 34 [some (.ref w), some (.ref v)] [] (G, (mI A, j), cc) P :=
  (pv_aload_n rfl rfl   (pv_getP rfl rfl (oX10_k hv) (oX10_3 hv)   (pn_iconst rfl rfl   (pv_aload_n rfl rfl   (pv_getP rfl rfl (oX10_k hw) (oX10_3 hw)   (pn_iconst rfl rfl   (pn_bipush rfl rfl   (pn_copy rfl rfl (oX10_3c hv) (oX10_3c hw) (by decide) (by decide) H.1 H.2.1 rfl H.2.2))))))))
theorem w90_49 {X : gv_X} {d : Nat} {G : gv_Sh} {A : Nat → Nat → Nat} {j : Nat → Nat → Int64} {cc : gv_Rs} {P : gv_O × gv_S → Prop} {w : Nat} {v : Nat} (hw : oX10 G w) (hv : oX10 G v) (H : EvP X (d + 1) gvm_90 57 [some (.ref w), some (.ref v)] [] (G, (mI (gu A w 4 (A v 4)), j), cc) P) : EvP X (d + 1) gvm_90 49 [some (.ref w), some (.ref v)] [] (G, (mI A, j), cc) P :=
  (pv_aload_n rfl rfl   (pv_aload_n rfl rfl   (pn_getI rfl rfl (oX10_k hv) rfl   (pn_putI rfl rfl (oX10_k hw)   H))))
theorem w90_57 {X : gv_X} {d : Nat} {G : gv_Sh} {A : Nat → Nat → Nat} {j : Nat → Nat → Int64} {cc : gv_Rs} {P : gv_O × gv_S → Prop} {w : Nat} {v : Nat} (hw : oX10 G w) (hv : oX10 G v) (H : EvP X (d + 1) gvm_90 65 [some (.ref w), some (.ref v)] [] (G, (mI (gu A w 5 (A v 5)), j), cc) P) : EvP X (d + 1) gvm_90 57 [some (.ref w), some (.ref v)] [] (G, (mI A, j), cc) P :=
  (pv_aload_n rfl rfl   (pv_aload_n rfl rfl   (pn_getI rfl rfl (oX10_k hv) rfl   (pn_putI rfl rfl (oX10_k hw)   H))))
theorem w90_65 {X : gv_X} {d : Nat} {G : gv_Sh} {A : Nat → Nat → Nat} {j : Nat → Nat → Int64} {cc : gv_Rs} {P : gv_O × gv_S → Prop} {w : Nat} {v : Nat} (hw : oX10 G w) (hv : oX10 G v) (H : EvP X (d + 1) gvm_90 73 [some (.ref w), some (.ref v)] [] (G, (mI (gu A w 6 (A v 6)), j), cc) P) : EvP X (d + 1) gvm_90 65 [some (.ref w), some (.ref v)] [] (G, (mI A, j), cc) P :=
  (pv_aload_n rfl rfl   (pv_aload_n rfl rfl   (pn_getI rfl rfl (oX10_k hv) rfl   (pn_putI rfl rfl (oX10_k hw)   H))))
theorem w90_73 {X : gv_X} {d : Nat} {G : gv_Sh} {A : Nat → Nat → Nat} {j : Nat → Nat → Int64} {cc : gv_Rs} {P : gv_O × gv_S → Prop} {w : Nat} {v : Nat} (hw : oX10 G w) (hv : oX10 G v) (H : EvP X (d + 1) gvm_90 81 [some (.ref w), some (.ref v)] [] (G, (mI (gu A w 7 (A v 7)), j), cc) P) : EvP X (d + 1) gvm_90 73 [some (.ref w), some (.ref v)] [] (G, (mI A, j), cc) P :=
  (pv_aload_n rfl rfl   (pv_aload_n rfl rfl   (pn_getI rfl rfl (oX10_k hv) rfl   (pn_putI rfl rfl (oX10_k hw)   H))))
theorem w90_81 {X : gv_X} {d : Nat} {G : gv_Sh} {A : Nat → Nat → Nat} {j : Nat → Nat → Int64} {cc : gv_Rs} {P : gv_O × gv_S → Prop} {w : Nat} {v : Nat} (hw : oX10 G w) (hv : oX10 G v) (H : EvP X (d + 1) gvm_90 89 [some (.ref w), some (.ref v)] [] (G, (mI (gu A w 8 (A v 8)), j), cc) P) : EvP X (d + 1) gvm_90 81 [some (.ref w), some (.ref v)] [] (G, (mI A, j), cc) P :=
  (pv_aload_n rfl rfl   (pv_aload_n rfl rfl   (pn_getI rfl rfl (oX10_k hv) rfl   (pn_putI rfl rfl (oX10_k hw)   H))))
theorem w90_89 {X : gv_X} {d : Nat} {G : gv_Sh} {A : Nat → Nat → Nat} {j : Nat → Nat → Int64} {cc : gv_Rs} {P : gv_O × gv_S → Prop} {w : Nat} {v : Nat} (hw : oX10 G w) (hv : oX10 G v) (H : EvP X (d + 1) gvm_90 97 [some (.ref w), some (.ref v)] [] (G, (mI (gu A w 9 (A v 9)), j), cc) P) : EvP X (d + 1) gvm_90 89 [some (.ref w), some (.ref v)] [] (G, (mI A, j), cc) P :=
  (pv_aload_n rfl rfl   (pv_aload_n rfl rfl   (pn_getI rfl rfl (oX10_k hv) rfl   (pn_putI rfl rfl (oX10_k hw)   H))))
theorem w90_97 {X : gv_X} {d : Nat} {G : gv_Sh} {A : Nat → Nat → Nat} {j : Nat → Nat → Int64} {cc : gv_Rs} {P : gv_O × gv_S → Prop} {w : Nat} {v : Nat} (hw : oX10 G w) (hv : oX10 G v) (H : EvP X (d + 1) gvm_90 105 [some (.ref w), some (.ref v)] [] (G, (mI (gu A w 10 (A v 10)), j), cc) P) : EvP X (d + 1) gvm_90 97 [some (.ref w), some (.ref v)] [] (G, (mI A, j), cc) P :=
  (pv_aload_n rfl rfl   (pv_aload_n rfl rfl   (pn_getI rfl rfl (oX10_k hv) rfl   (pn_putI rfl rfl (oX10_k hw)   H))))
theorem w90_105 {X : gv_X} {d : Nat} {G : gv_Sh} {A : Nat → Nat → Nat} {j : Nat → Nat → Int64} {cc : gv_Rs} {P : gv_O × gv_S → Prop} {w : Nat} {v : Nat} (hw : oX10 G w) (hv : oX10 G v) (H : EvP X (d + 1) gvm_90 113 [some (.ref w), some (.ref v)] [] (G, (mI (gu A w 11 (A v 11)), j), cc) P) : EvP X (d + 1) gvm_90 105 [some (.ref w), some (.ref v)] [] (G, (mI A, j), cc) P :=
  (pv_aload_n rfl rfl   (pv_aload_n rfl rfl   (pn_getI rfl rfl (oX10_k hv) rfl   (pn_putI rfl rfl (oX10_k hw)   H))))
theorem w90_113 {X : gv_X} {d : Nat} {G : gv_Sh} {A : Nat → Nat → Nat} {j : Nat → Nat → Int64} {cc : gv_Rs} {P : gv_O × gv_S → Prop} {w : Nat} {v : Nat} (hw : oX10 G w) (hv : oX10 G v) (H : ((w + 9) + 2 ≤ (v + 9) ∨ (v + 9) + 2 ≤ (w + 9)) ∧ ((A (v + 9) 5 < 2) ∧ ((∀ A1v1 : Nat → Nat → Nat, ((cpC A A1v1 (w + 9) (v + 9))) → EvP X (d + 1) gvm_90 124 [some (.ref w), some (.ref v)] [] (G, (mI A1v1, j), cc) P)))) : EvP X (d + 1) gvm_90 113 [some (.ref w), some (.ref v)] [] (G, (mI A, j), cc) P :=
  (pv_aload_n rfl rfl   (pv_getP rfl rfl (oX10_k hw) (oX10_12 hw)   (pv_aload_n rfl rfl   (pv_getP rfl rfl (oX10_k hv) (oX10_12 hv)   (match (c_copyCore (c := (w + 9)) (e := (v + 9)) (A := A) (X := X) (d := d + 0) (G := G) (j := j) (cc := cc) (oX10_12c hw) (oX10_12c hv) H.1 H.2.1 ) with | ⟨A1v1, e1x121, h1⟩ => pv_virt rfl rfl rfl rfl rfl (oX1_k (oX10_12c hw)) rfl rfl rfl e1x121 (H.2.2 A1v1 h1))))))
theorem w90_124 {X : gv_X} {d : Nat} {G : gv_Sh} {A : Nat → Nat → Nat} {j : Nat → Nat → Int64} {cc : gv_Rs} {P : gv_O × gv_S → Prop} {w : Nat} {v : Nat} (hw : oX10 G w) (hv : oX10 G v) (H : ((w + 11) + 2 ≤ (v + 11) ∨ (v + 11) + 2 ≤ (w + 11)) ∧ ((A (v + 11) 5 < 2) ∧ ((∀ A1v1 : Nat → Nat → Nat, ((cpC A A1v1 (w + 11) (v + 11))) → EvP X (d + 1) gvm_90 135 [some (.ref w), some (.ref v)] [] (G, (mI A1v1, j), cc) P)))) : EvP X (d + 1) gvm_90 124 [some (.ref w), some (.ref v)] [] (G, (mI A, j), cc) P :=
  (pv_aload_n rfl rfl   (pv_getP rfl rfl (oX10_k hw) (oX10_13 hw)   (pv_aload_n rfl rfl   (pv_getP rfl rfl (oX10_k hv) (oX10_13 hv)   (match (c_copyCore (c := (w + 11)) (e := (v + 11)) (A := A) (X := X) (d := d + 0) (G := G) (j := j) (cc := cc) (oX10_13c hw) (oX10_13c hv) H.1 H.2.1 ) with | ⟨A1v1, e1x132, h1⟩ => pv_virt rfl rfl rfl rfl rfl (oX1_k (oX10_13c hw)) rfl rfl rfl e1x132 (H.2.2 A1v1 h1))))))
theorem w90_135 {X : gv_X} {d : Nat} {G : gv_Sh} {A : Nat → Nat → Nat} {j : Nat → Nat → Int64} {cc : gv_Rs} {P : gv_O × gv_S → Prop} {w : Nat} {v : Nat} (hw : oX10 G w) (hv : oX10 G v) (H : ((w + 13) + 2 ≤ (v + 13) ∨ (v + 13) + 2 ≤ (w + 13)) ∧ ((∀ A1v1 : Nat → Nat → Nat, ((cpL2 A A1v1 (w + 13) (v + 13))) → P (.inl none, (G, (mI A1v1, j), cc))))) : EvP X (d + 1) gvm_90 135 [some (.ref w), some (.ref v)] [] (G, (mI A, j), cc) P :=
  (pv_aload_n rfl rfl   (pv_getP rfl rfl (oX10_k hw) (oX10_14 hw)   (pv_aload_n rfl rfl   (pv_getP rfl rfl (oX10_k hv) (oX10_14 hv)   (match (c_copyLog (l := (w + 13)) (m := (v + 13)) (A := A) (X := X) (d := d + 0) (G := G) (j := j) (cc := cc) (oX10_14c hw) (oX10_14c hv) H.1 ) with | ⟨A1v1, e1x143, h1⟩ => pv_virt rfl rfl rfl rfl rfl (oX5_k (oX10_14c hw)) rfl rfl rfl e1x143 (pv_vret rfl (H.2 A1v1 h1)))))))
theorem c_copyWorld_p {X : gv_X} {d : Nat} {G : gv_Sh} {A : Nat → Nat → Nat} {j : Nat → Nat → Int64} {cc : gv_Rs} {P : gv_O × gv_S → Prop} {w : Nat} {v : Nat} {R : Nat → Nat} (hw : oX10 G w) (hv : oX10 G v) (p0 : okW R) (p1 : rW A v R) (p2 : w + 15 ≤ v ∨ v + 15 ≤ w) (hP : ∀ A1 : Nat → Nat → Nat, (rW A1 w R) ∧ (∀ q, (q < w ∨ w + 14 < q) → A1 q = A q) → P (.inl none, (G, (mI A1, j), cc))) : EvP X (d + 1) gvm_90 0 (gv_enter [.ref w, .ref v] 2) [] (G, (mI A, j), cc) P := by
  obtain ⟨r1, r2, r3, r4, r5, r6, r7⟩ := p1
  have n3 := (okW_n p0).2.2.2.1
  have n0 := (okW_n p0).1
  have n10 := (okW_n p0).2.2.2.2.2.2.2.2.2.2.2.1
  have s135 : ∀ B, cpI A B w v 12 → ∀ C, cpC B C (w + 9) (v + 9) → ∀ D, cpC C D (w + 11) (v + 11) → EvP X (d + 1) gvm_90 135 [some (.ref w), some (.ref v)] [] (G, (mI D, j), cc) P := fun B hB C hC D hD => by
    refine w90_135 hw hv ⟨by omega, fun E hE => hP E ⟨?_, fun q hq => ?_⟩⟩
    · obtain ⟨h1, h2, h3, h4, h5, h6⟩ := hB
      have eB : ∀ q, v ≤ q → q ≤ v + 14 → B q = A q := fun q a b => h6 q (by omega)
      have c0 : ∀ q, q ≤ w + 8 → D q = B q := fun q a => (hD.2.2 q (by omega) (by omega)).trans (hC.2.2 q (by omega) (by omega))
      have e0 : ∀ q, q ≤ w + 8 → E q = B q := fun q a => (hE.2.2.2 q (by omega) (by omega)).trans (c0 q a)
      refine ⟨⟨?_, fun p hp => ?_, fun z hz => ?_⟩, ⟨?_, fun k hk => ?_⟩, fun k hk => ?_, ?_, ?_, ?_, ?_, ?_, fun i x hi hx => ?_⟩
      · rw [e0 _ (by omega), h1.1]; exact r1.1
      · obtain ⟨a, b, c, d⟩ := r1.2.1 p hp
        have q8 := h1.2.1 p (by omega)
        rw [e0 _ (by omega), e0 _ (by omega), e0 _ (by omega), e0 _ (by omega), e0 _ (by omega), q8.1, q8.2.1, q8.2.2]
        refine ⟨a, b, c, fun k hk => ?_⟩
        have s3 := (okW_o p0 (p := p) (by omega)).1
        have q24 := h1.2.2 (p * 3 + k) (by omega)
        rw [q24.1, q24.2]; exact d k hk
      · have q24 := h1.2.2 z hz
        rw [e0 _ (by omega), e0 _ (by omega), q24.1, q24.2]; exact r1.2.2 z hz
      · rw [e0 w (by omega), h3 (by omega)]; exact r2.1
      · rw [e0 _ (by omega), h2 (by omega) k (by omega)]; exact r2.2 k hk
      · rw [e0 _ (by omega), h4 (by omega) k hk]; exact r3 k hk
      · unfold rN
        rw [e0 w (by omega), h5 4 (by omega) (by omega), h5 5 (by omega) (by omega), h5 6 (by omega) (by omega), h5 7 (by omega) (by omega), h5 8 (by omega) (by omega), h5 9 (by omega) (by omega), h5 10 (by omega) (by omega), h5 11 (by omega) (by omega)]
        exact r4
      · refine rC_of (A := C) ?_ ((hE.2.2.2 _ (by omega) (by omega)).trans (hD.2.2 _ (by omega) (by omega))) ((hE.2.2.2 _ (by omega) (by omega)).trans (hD.2.2 _ (by omega) (by omega)))
        unfold rC
        rw [hC.1 0 (by omega), hC.1 1 (by omega), hC.1 2 (by omega), hC.1 3 (by omega), hC.1 4 (by omega), hC.1 5 (by omega), eB (v + 9) (by omega) (by omega)]
        exact ⟨r5.1, r5.2.1, r5.2.2.1, r5.2.2.2.1, r5.2.2.2.2.1, r5.2.2.2.2.2.1, fun k hk => by rw [hC.2.1 k hk, eB _ (by omega) (by omega)]; exact r5.2.2.2.2.2.2 k hk⟩
      · refine rC_of (A := D) ?_ (hE.2.2.2 _ (by omega) (by omega)) (hE.2.2.2 _ (by omega) (by omega))
        have eC : ∀ q, v ≤ q → q ≤ v + 14 → C q = A q := fun q a b => (hC.2.2 q (by omega) (by omega)).trans (eB q a b)
        unfold rC
        rw [hD.1 0 (by omega), hD.1 1 (by omega), hD.1 2 (by omega), hD.1 3 (by omega), hD.1 4 (by omega), hD.1 5 (by omega), eC (v + 11) (by omega) (by omega)]
        exact ⟨r6.1, r6.2.1, r6.2.2.1, r6.2.2.2.1, r6.2.2.2.2.1, r6.2.2.2.2.2.1, fun k hk => by rw [hD.2.1 k hk, eC _ (by omega) (by omega)]; exact r6.2.2.2.2.2.2 k hk⟩
      · rw [hE.1, hD.2.2 _ (by omega) (by omega), hC.2.2 _ (by omega) (by omega), eB _ (by omega) (by omega)]; exact r7.1
      · rw [hE.2.1, hD.2.2 _ (by omega) (by omega), hC.2.2 _ (by omega) (by omega), eB _ (by omega) (by omega)]; exact r7.2.1
      · have e1 : E (w + 13) 1 = A (v + 13) 1 := by rw [hE.2.1, hD.2.2 _ (by omega) (by omega), hC.2.2 _ (by omega) (by omega), eB _ (by omega) (by omega)]
        rw [e1, hE.2.2.1 _ (by omega), hD.2.2 _ (by omega) (by omega), hC.2.2 _ (by omega) (by omega), eB _ (by omega) (by omega)]
        exact r7.2.2 i x hi hx
    · rw [hE.2.2.2 q (by omega) (by omega), hD.2.2 q (by omega) (by omega), hC.2.2 q (by omega) (by omega)]
      exact hB.2.2.2.2.2 q (by omega)
  have s113 : ∀ B, cpI A B w v 12 → EvP X (d + 1) gvm_90 113 [some (.ref w), some (.ref v)] [] (G, (mI B, j), cc) P := fun B hB => by
    have f := hB.2.2.2.2.2
    refine w90_113 hw hv ⟨by omega, by rw [f _ (by omega)]; have := r5.2.2.2.2.2.1; omega, fun C hC => w90_124 hw hv ⟨by omega, by rw [hC.2.2 _ (by omega) (by omega), f _ (by omega)]; have := r6.2.2.2.2.2.1; omega, fun D hD => s135 B hB C hC D hD⟩⟩
  have s105 : ∀ B, cpI A B w v 11 → EvP X (d + 1) gvm_90 105 [some (.ref w), some (.ref v)] [] (G, (mI B, j), cc) P := fun B hB => w90_105 hw hv (s113 _ (cpI_u hB (by decide) p2))
  have s97 : ∀ B, cpI A B w v 10 → EvP X (d + 1) gvm_90 97 [some (.ref w), some (.ref v)] [] (G, (mI B, j), cc) P := fun B hB => w90_97 hw hv (s105 _ (cpI_u hB (by decide) p2))
  have s89 : ∀ B, cpI A B w v 9 → EvP X (d + 1) gvm_90 89 [some (.ref w), some (.ref v)] [] (G, (mI B, j), cc) P := fun B hB => w90_89 hw hv (s97 _ (cpI_u hB (by decide) p2))
  have s81 : ∀ B, cpI A B w v 8 → EvP X (d + 1) gvm_90 81 [some (.ref w), some (.ref v)] [] (G, (mI B, j), cc) P := fun B hB => w90_81 hw hv (s89 _ (cpI_u hB (by decide) p2))
  have s73 : ∀ B, cpI A B w v 7 → EvP X (d + 1) gvm_90 73 [some (.ref w), some (.ref v)] [] (G, (mI B, j), cc) P := fun B hB => w90_73 hw hv (s81 _ (cpI_u hB (by decide) p2))
  have s65 : ∀ B, cpI A B w v 6 → EvP X (d + 1) gvm_90 65 [some (.ref w), some (.ref v)] [] (G, (mI B, j), cc) P := fun B hB => w90_65 hw hv (s73 _ (cpI_u hB (by decide) p2))
  have s57 : ∀ B, cpI A B w v 5 → EvP X (d + 1) gvm_90 57 [some (.ref w), some (.ref v)] [] (G, (mI B, j), cc) P := fun B hB => w90_57 hw hv (s65 _ (cpI_u hB (by decide) p2))
  have s49 : ∀ B, cpI A B w v 4 → EvP X (d + 1) gvm_90 49 [some (.ref w), some (.ref v)] [] (G, (mI B, j), cc) P := fun B hB => w90_49 hw hv (s57 _ (cpI_u hB (by decide) p2))
  refine w90 hw hv ⟨by omega, fun B hB => w90_11 hw hv ⟨by decide, by decide, w90_26 hw hv (w90_34 hw hv ⟨by decide, by decide, s49 _ ?_⟩)⟩⟩
  obtain ⟨b0, b1, b2, b3⟩ := hB
  have r : ∀ a, a ≤ 5 → gw (gu (gw B (w + 7) (va_cpy (B (v + 7)) (B (w + 7)) 0 0 10)) w 2 (gw B (w + 7) (va_cpy (B (v + 7)) (B (w + 7)) 0 0 10) v 2)) (w + 8) (va_cpy (gu (gw B (w + 7) (va_cpy (B (v + 7)) (B (w + 7)) 0 0 10)) w 2 (gw B (w + 7) (va_cpy (B (v + 7)) (B (w + 7)) 0 0 10) v 2) (v + 8)) (gu (gw B (w + 7) (va_cpy (B (v + 7)) (B (w + 7)) 0 0 10)) w 2 (gw B (w + 7) (va_cpy (B (v + 7)) (B (w + 7)) 0 0 10) v 2) (w + 8)) 0 0 8) (w + 1 + a) = B (w + 1 + a) := fun a ha => by
    rw [gw_row (by omega), gu_row (by omega), gw_row (by omega)]
  refine ⟨?_, fun _ k hk => ?_, fun _ => ?_, fun _ k hk => ?_, fun k a b => absurd a (by omega), fun q hq => ?_⟩
  · have r0 := r 0 (by omega)
    rw [Nat.add_zero] at r0
    rw [r0, r 1 (by omega), r 2 (by omega), r 3 (by omega), r 4 (by omega), r 5 (by omega)]
    exact ⟨b0, b1, b2⟩
  · rw [gw_row (by omega), gu_row (by omega), gw_at, cpy_lt hk, b3 _ (by omega)]
  · rw [gw_row (by omega), gu_hit, gw_row (by omega), b3 _ (by omega)]
  · rw [gw_at, cpy_lt hk, gu_row (by omega), gw_row (by omega), b3 _ (by omega)]
  · rw [gw_row (by omega), gu_row (by omega), gw_row (by omega), b3 _ (by omega)]
theorem c_copyWorld {X : gv_X} {d : Nat} {G : gv_Sh} {A : Nat → Nat → Nat} {j : Nat → Nat → Int64} {cc : gv_Rs} {w : Nat} {v : Nat} {R : Nat → Nat} (hw : oX10 G w) (hv : oX10 G v) (p0 : okW R) (p1 : rW A v R) (p2 : w + 15 ≤ v ∨ v + 15 ≤ w) : ∃ A1 : Nat → Nat → Nat, Ev X (d + 1) gvm_90 0 (gv_enter [.ref w, .ref v] 2) [] (G, (mI A, j), cc) (.inl none, (G, (mI A1, j), cc)) ∧ (rW A1 w R) ∧ (∀ q, (q < w ∨ w + 14 < q) → A1 q = A q) := by
  obtain ⟨_, h, A1, rfl, hp⟩ := c_copyWorld_p (X := X) (d := d) (G := G) (A := A) (j := j) (cc := cc) (w := w) (v := v) (R := R) (P := fun r => ∃ A1 : Nat → Nat → Nat, r = (.inl none, (G, (mI A1, j), cc)) ∧ (rW A1 w R) ∧ (∀ q, (q < w ∨ w + 14 < q) → A1 q = A q)) hw hv p0 p1 p2 (fun A1 h => ⟨A1, rfl, h⟩)
  exact ⟨A1, h, hp⟩
theorem w91 {X : gv_X} {d : Nat} {G : gv_Sh} {A : Nat → Nat → Nat} {j : Nat → Nat → Int64} {cc : gv_Rs} {P : gv_O × gv_S → Prop} {w : Nat} (hw : oX10 G w) (H : ((w + 8) ≠ (w + 9)) ∧ (((w + 8) ≠ (w + 9) + 1) ∧ ((∀ A1v1 : Nat → Nat → Nat, ((A1v1 (w + 9) 0 = 0 ∧ A1v1 (w + 9) 1 = 0 ∧ A1v1 (w + 9) 2 = 1 ∧ A1v1 (w + 9) 3 = 0 ∧ A1v1 (w + 9) 4 = 0 ∧ A1v1 (w + 9) 5 = 0) ∧ (∀ k, k < 8 → A1v1 ((w + 9) + 1) k = A (w + 8) k) ∧ (∀ q, q ≠ (w + 9) → q ≠ (w + 9) + 1 → A1v1 q = A q)) → ((w + 8) ≠ (w + 11)) ∧ (((w + 8) ≠ (w + 11) + 1) ∧ ((∀ A1v2 : Nat → Nat → Nat, ((A1v2 (w + 11) 0 = 0 ∧ A1v2 (w + 11) 1 = 0 ∧ A1v2 (w + 11) 2 = 1 ∧ A1v2 (w + 11) 3 = 0 ∧ A1v2 (w + 11) 4 = 0 ∧ A1v2 (w + 11) 5 = 0) ∧ (∀ k, k < 8 → A1v2 ((w + 11) + 1) k = A1v1 (w + 8) k) ∧ (∀ q, q ≠ (w + 11) → q ≠ (w + 11) + 1 → A1v2 q = A1v1 q)) → P (.inl none, (G, (mI A1v2, j), cc))))))))) : EvP X (d + 1) gvm_91 0 (gv_enter [.ref w] 1) [] (G, (mI A, j), cc) P :=
  (pv_aload_n rfl rfl   (pv_getP rfl rfl (oX10_k hw) (oX10_12 hw)   (pv_aload_n rfl rfl   (pv_getP rfl rfl (oX10_k hw) (oX10_3 hw)   (match (c_startCore (c := (w + 9)) (f := (w + 8)) (A := A) (X := X) (d := d + 0) (G := G) (j := j) (cc := cc) (oX10_12c hw) (oX10_3c hw) H.1 H.2.1 ) with | ⟨A1v1, e2x8, h1⟩ => pv_virt rfl rfl rfl rfl rfl (oX1_k (oX10_12c hw)) rfl rfl rfl e2x8 (pv_aload_n rfl rfl   (pv_getP rfl rfl (oX10_k hw) (oX10_13 hw)   (pv_aload_n rfl rfl   (pv_getP rfl rfl (oX10_k hw) (oX10_3 hw)   (match (c_startCore (c := (w + 11)) (f := (w + 8)) (A := A1v1) (X := X) (d := d + 0) (G := G) (j := j) (cc := cc) (oX10_13c hw) (oX10_3c hw) (H.2.2 A1v1 h1).1 (H.2.2 A1v1 h1).2.1 ) with | ⟨A1v2, e2x19, h2⟩ => pv_virt rfl rfl rfl rfl rfl (oX1_k (oX10_13c hw)) rfl rfl rfl e2x19 (pv_vret rfl ((H.2.2 A1v1 h1).2.2 A1v2 h2))))))))))))
theorem c_startWorld_p {X : gv_X} {d : Nat} {G : gv_Sh} {A : Nat → Nat → Nat} {j : Nat → Nat → Int64} {cc : gv_Rs} {P : gv_O × gv_S → Prop} {w : Nat} {R : Nat → Nat} (hw : oX10 G w) (p0 : okW R) (p1 : rW A w R) (hP : ∀ A1 : Nat → Nat → Nat, (rW A1 w (boR R)) ∧ (∀ q, q ≠ w + 9 → q ≠ w + 10 → q ≠ w + 11 → q ≠ w + 12 → A1 q = A q) → P (.inl none, (G, (mI A1, j), cc))) : EvP X (d + 1) gvm_91 0 (gv_enter [.ref w] 1) [] (G, (mI A, j), cc) P := by
  have hb : ∀ g i, g < 2 → i < 13 → boR R (102 + 13 * g + i) = (if i = 2 then 1 else if i < 5 then 0 else R (22 + (i - 5))) := by
    intro g i hg hi
    unfold boR boN boV
    rw [if_pos (by omega), show (102 + 13 * g + i - 102) % 13 = i by omega]
  have hc : ∀ (B C : Nat → Nat → Nat) c g, g < 2 → (∀ k, k < 8 → B (w + 8) k = R (22 + k)) → (C c 0 = 0 ∧ C c 1 = 0 ∧ C c 2 = 1 ∧ C c 3 = 0 ∧ C c 4 = 0 ∧ C c 5 = 0) → (∀ k, k < 8 → C (c + 1) k = B (w + 8) k) → rC C c (boR R) g := by
    intro B C c g hg h8 h1 h2
    refine ⟨?_, ?_, ?_, ?_, ?_, by omega, fun k hk => ?_⟩
    · rw [hb g 0 hg (by omega)]; exact h1.1
    · rw [hb g 1 hg (by omega)]; exact h1.2.1
    · rw [hb g 2 hg (by omega)]; exact h1.2.2.1
    · rw [hb g 3 hg (by omega)]; exact h1.2.2.2.1
    · rw [hb g 4 hg (by omega)]; exact h1.2.2.2.2.1
    · rw [hb g (5 + k) hg (by omega), if_neg (by omega), if_neg (by omega), h2 k hk, h8 k hk, show 5 + k - 5 = k by omega]
  have n := okW_n p0
  have e := eqG_bo R
  obtain ⟨r1, r2, r3, r4, r5, r6, r7⟩ := p1
  refine w91 hw ⟨by omega, by omega, fun B hB => ⟨by omega, by omega, fun C hC => hP C ?_⟩⟩
  have f : ∀ q, q ≠ w + 9 → q ≠ w + 10 → q ≠ w + 11 → q ≠ w + 12 → C q = A q := fun q a b c d => (hC.2.2 q (by omega) (by omega)).trans (hB.2.2 q (by omega) (by omega))
  refine ⟨⟨rO_X (rO_fr r1 (fun a x y => f a (by omega) (by omega) (by omega) (by omega))) p0 (fun i hi => e i (by omega)), rP_R (rP_of r2 (by rw [f w (by omega) (by omega) (by omega) (by omega)]) (f _ (by omega) (by omega) (by omega) (by omega))) n.2.2.2.1 (fun i hi => e i (by omega)), fun k hk => ?_, ?_, ?_, ?_, rL_R (rL_of r7 (f _ (by omega) (by omega) (by omega) (by omega)) (f _ (by omega) (by omega) (by omega) (by omega))) n.2.2.2.2.2.2.2.2.2.2.2.1 (fun i hi => e i (by omega))⟩, f⟩
  · rw [f _ (by omega) (by omega) (by omega) (by omega), e _ (by omega)]; exact r3 k hk
  · unfold rN
    rw [f w (by omega) (by omega) (by omega) (by omega), e 4 (by omega), e 5 (by omega), e 6 (by omega), e 7 (by omega), e 8 (by omega), e 9 (by omega), e 11 (by omega), e 1 (by omega)]
    exact r4
  · refine rC_of (hc A B (w + 9) 0 (by omega) r3 hB.1 hB.2.1) (hC.2.2 _ (by omega) (by omega)) (hC.2.2 _ (by omega) (by omega))
  · exact hc B C (w + 11) 1 (by omega) (fun k hk => by rw [hB.2.2 _ (by omega) (by omega)]; exact r3 k hk) hC.1 hC.2.1
theorem c_startWorld {X : gv_X} {d : Nat} {G : gv_Sh} {A : Nat → Nat → Nat} {j : Nat → Nat → Int64} {cc : gv_Rs} {w : Nat} {R : Nat → Nat} (hw : oX10 G w) (p0 : okW R) (p1 : rW A w R) : ∃ A1 : Nat → Nat → Nat, Ev X (d + 1) gvm_91 0 (gv_enter [.ref w] 1) [] (G, (mI A, j), cc) (.inl none, (G, (mI A1, j), cc)) ∧ (rW A1 w (boR R)) ∧ (∀ q, q ≠ w + 9 → q ≠ w + 10 → q ≠ w + 11 → q ≠ w + 12 → A1 q = A q) := by
  obtain ⟨_, h, A1, rfl, hp⟩ := c_startWorld_p (X := X) (d := d) (G := G) (A := A) (j := j) (cc := cc) (w := w) (R := R) (P := fun r => ∃ A1 : Nat → Nat → Nat, r = (.inl none, (G, (mI A1, j), cc)) ∧ (rW A1 w (boR R)) ∧ (∀ q, q ≠ w + 9 → q ≠ w + 10 → q ≠ w + 11 → q ≠ w + 12 → A1 q = A q)) hw p0 p1 (fun A1 h => ⟨A1, rfl, h⟩)
  exact ⟨A1, h, hp⟩
theorem w92 {X : gv_X} {d : Nat} {G : gv_Sh} {A : Nat → Nat → Nat} {j : Nat → Nat → Int64} {cc : gv_Rs} {P : gv_O × gv_S → Prop} {w : Nat} {c : Nat} (hw : oX10 G w) (H : (c < 4294967296) ∧ (((2147483648 ≤ c) → P (.inl (some (.int (nI 4294967295))), (G, (mI A, j), cc))) ∧ ((c < 2147483648) → (c < 2147483648) ∧ (((A w 2) < 2147483648) ∧ ((((A w 2) ≤ c) → P (.inl (some (.int (nI 4294967295))), (G, (mI A, j), cc))) ∧ ((c < (A w 2)) → (c < 2147483648) ∧ (((10 ≤ c) → P (.inl (some (.int (nI 4294967295))), (G, (mI A, j), cc))) ∧ ((c < 10) → (c < 10) ∧ (P (.inl (some (.int (nI (A (w + 7) c)))), (G, (mI A, j), cc))))))))))) : EvP X (d + 0) gvm_92 0 (gv_enter [.ref w, .int (nI c)] 2) [] (G, (mI A, j), cc) P :=
  (pv_iload_n rfl rfl   (pn_if_lt rfl H.1 (fun c1 => (pn_iconst (u := 4294967295) rfl (by decide)   (pv_ireti rfl rfl (H.2.1 c1)))) (fun c1 => (pv_iload_n rfl rfl   (pv_aload_n rfl rfl   (pn_getI rfl rfl (oX10_k hw) rfl   (pn_ic_ge rfl (H.2.2 c1).1 (H.2.2 c1).2.1 (fun c2 => (pn_iconst (u := 4294967295) rfl (by decide)   (pv_ireti rfl rfl ((H.2.2 c1).2.2.1 c2)))) (fun c2 => (pv_iload_n rfl rfl   (pn_bipush rfl rfl   (pn_ic_ge rfl ((H.2.2 c1).2.2.2 c2).1 (by decide) (fun c3 => (pn_iconst (u := 4294967295) rfl (by decide)   (pv_ireti rfl rfl (((H.2.2 c1).2.2.2 c2).2.1 c3)))) (fun c3 => (pv_aload_n rfl rfl   (pv_getP rfl rfl (oX10_k hw) (oX10_1 hw)   (pv_iload_n rfl rfl   (pn_iald rfl (oX10_1c hw) (by decide) (((H.2.2 c1).2.2.2 c2).2.2 c3).1 rfl (pv_goto rfl (pv_ireti rfl rfl (((H.2.2 c1).2.2.2 c2).2.2 c3).2))))))))))))))))))
theorem c_opAt_p {X : gv_X} {d : Nat} {G : gv_Sh} {A : Nat → Nat → Nat} {j : Nat → Nat → Int64} {cc : gv_Rs} {P : gv_O × gv_S → Prop} {w : Nat} {c : Nat} (hw : oX10 G w) (p0 : c < 4294967296) (p1 : A w 2 ≤ 10) (hP : P (.inl (some (.int (nI (if c < A w 2 then A (w + 7) c else 4294967295)))), (G, (mI A, j), cc))) : EvP X (d + 0) gvm_92 0 (gv_enter [.ref w, .int (nI c)] 2) [] (G, (mI A, j), cc) P := by
  refine w92 hw  ⟨by omega, ⟨fun c1 => ?_, fun c1 => ⟨by omega, ⟨by omega, ⟨fun c2 => ?_, fun c2 => ⟨by omega, ⟨fun c3 => ?_, fun c3 => ⟨by omega, ?_⟩⟩⟩⟩⟩⟩⟩⟩
  · exact qn hP (if_neg (by omega))
  · exact qn hP (if_neg (by omega))
  · exact qn hP (if_neg (by omega))
  · exact qn hP (if_pos (by omega))
theorem c_opAt {X : gv_X} {d : Nat} {G : gv_Sh} {A : Nat → Nat → Nat} {j : Nat → Nat → Int64} {cc : gv_Rs} {w : Nat} {c : Nat} (hw : oX10 G w) (p0 : c < 4294967296) (p1 : A w 2 ≤ 10) : Ev X (d + 0) gvm_92 0 (gv_enter [.ref w, .int (nI c)] 2) [] (G, (mI A, j), cc) (.inl (some (.int (nI (if c < A w 2 then A (w + 7) c else 4294967295)))), (G, (mI A, j), cc)) := evp_det (c_opAt_p hw p0 p1 rfl)
theorem w94 {X : gv_X} {d : Nat} {G : gv_Sh} {A : Nat → Nat → Nat} {j : Nat → Nat → Int64} {cc : gv_Rs} {P : gv_O × gv_S → Prop} {w : Nat} (hw : oX10 G w) (H : (A (w + 9) 0 ≤ 12) ∧ ((A (w + 11) 0 ≤ 12) ∧ ((okM (cM A (w + 9))) ∧ ((okM (cM A (w + 11))) ∧ (P (.inl (some (.int (zo (decide (A (w + 9) 0 = A (w + 11) 0) && (decide (A (w + 9) 2 = A (w + 11) 2) && (decide (A (w + 9) 3 = A (w + 11) 3) && (decide (A (w + 9) 1 = A (w + 11) 1) && clA A (w + 9) (w + 11) 0))))))), (G, (mI A, j), cc))))))) : EvP X (d + 2) gvm_94 0 (gv_enter [.ref w] 1) [] (G, (mI A, j), cc) P :=
  (pv_aload_n rfl rfl   (pv_getP rfl rfl (oX10_k hw) (oX10_12 hw)   (pv_aload_n rfl rfl   (pv_getP rfl rfl (oX10_k hw) (oX10_13 hw)   (pv_virt rfl rfl rfl rfl rfl (oX1_k (oX10_12c hw)) rfl rfl rfl (c_hasView (c := (w + 9)) (e := (w + 11)) (A := A) (oX10_12c hw) (oX10_13c hw) H.1 H.2.1 H.2.2.1 H.2.2.2.1 ) (pv_iretz rfl rfl (zo_b _) H.2.2.2.2))))))
theorem rW_alk {A : Nat → Nat → Nat} {w : Nat} {R : Nat → Nat} (h : rW A w R) : (decide (A (w + 9) 0 = A (w + 11) 0) && (decide (A (w + 9) 2 = A (w + 11) 2) && (decide (A (w + 9) 3 = A (w + 11) 3) && (decide (A (w + 9) 1 = A (w + 11) 1) && clA A (w + 9) (w + 11) 0)))) = alk R := by
  obtain ⟨-, -, -, -, ⟨a0, a1, a2, a3, a4, -, a5⟩, ⟨b0, b1, b2, b3, b4, -, b5⟩, -⟩ := h
  rw [Bool.eq_iff_iff]
  unfold alk alN clA
  simp only [Bool.and_eq_true, decide_eq_true_eq, allN_iff, Bool.or_eq_true]
  rw [a0, a1, a2, a3, b0, b1, b2, b3]
  constructor
  · rintro ⟨h0, h2, h3, h1, h5⟩ k hk
    by_cases z : k < 5
    · rcases (by omega : k = 0 ∨ k = 1 ∨ k = 2 ∨ k = 3 ∨ k = 4) with rfl | rfl | rfl | rfl | rfl
      · exact Or.inr h0
      · exact Or.inr h1
      · exact Or.inr h2
      · exact Or.inr h3
      · exact Or.inl rfl
    · have := h5 (k - 5) (by omega)
      rw [show (k - 5 + 0) % 8 = k - 5 by omega, a5 _ (by omega), b5 _ (by omega), show 5 + (k - 5) = k by omega] at this
      exact Or.inr this
  · intro h
    have g : ∀ k, k < 13 → k ≠ 4 → R (102 + 13 * 0 + k) = R (102 + 13 * 1 + k) := fun k hk z => (h k hk).resolve_left z
    refine ⟨g 0 (by omega) (by omega), g 2 (by omega) (by omega), g 3 (by omega) (by omega), g 1 (by omega) (by omega), fun k hk => ?_⟩
    rw [show (k + 0) % 8 = k by omega, a5 k hk, b5 k hk]
    exact g (5 + k) (by omega) (by omega)
theorem c_viewsAlike_p {X : gv_X} {d : Nat} {G : gv_Sh} {A : Nat → Nat → Nat} {j : Nat → Nat → Int64} {cc : gv_Rs} {P : gv_O × gv_S → Prop} {w : Nat} {R : Nat → Nat} (hw : oX10 G w) (p0 : okW R) (p1 : rW A w R) (hP : P (.inl (some (.int (zo (alk R)))), (G, (mI A, j), cc))) : EvP X (d + 2) gvm_94 0 (gv_enter [.ref w] 1) [] (G, (mI A, j), cc) P := by
  have c0 := rC_ok p1.2.2.2.2.1 p0 (by omega)
  have c1 := rC_ok p1.2.2.2.2.2.1 p0 (by omega)
  refine w94 hw ⟨c0.2, c1.2, c0.1, c1.1, ?_⟩
  rw [rW_alk p1]; exact hP
theorem c_viewsAlike {X : gv_X} {d : Nat} {G : gv_Sh} {A : Nat → Nat → Nat} {j : Nat → Nat → Int64} {cc : gv_Rs} {w : Nat} {R : Nat → Nat} (hw : oX10 G w) (p0 : okW R) (p1 : rW A w R) : Ev X (d + 2) gvm_94 0 (gv_enter [.ref w] 1) [] (G, (mI A, j), cc) (.inl (some (.int (zo (alk R)))), (G, (mI A, j), cc)) := evp_det (c_viewsAlike_p hw p0 p1 rfl)
theorem w95 {X : gv_X} {d : Nat} {G : gv_Sh} {A : Nat → Nat → Nat} {j : Nat → Nat → Int64} {cc : gv_Rs} {P : gv_O × gv_S → Prop} {w : Nat} (hw : oX10 G w) (H : ((A (w + 9) 0) < 4294967296) ∧ ((A w 2 ≤ 10) ∧ (((if (A (w + 9) 0) < A w 2 then A (w + 7) (A (w + 9) 0) else 4294967295) < 4294967296) ∧ (((¬ (if (A (w + 9) 0) < A w 2 then A (w + 7) (A (w + 9) 0) else 4294967295) = 4294967295) → P (.inl (some (.int (nI 0))), (G, (mI A, j), cc))) ∧ (((if (A (w + 9) 0) < A w 2 then A (w + 7) (A (w + 9) 0) else 4294967295) = 4294967295) → ((A (w + 11) 0) < 4294967296) ∧ ((A w 2 ≤ 10) ∧ (((if (A (w + 11) 0) < A w 2 then A (w + 7) (A (w + 11) 0) else 4294967295) < 4294967296) ∧ (((¬ (if (A (w + 11) 0) < A w 2 then A (w + 7) (A (w + 11) 0) else 4294967295) = 4294967295) → P (.inl (some (.int (nI 0))), (G, (mI A, j), cc))) ∧ (((if (A (w + 11) 0) < A w 2 then A (w + 7) (A (w + 11) 0) else 4294967295) = 4294967295) → P (.inl (some (.int (nI 1))), (G, (mI A, j), cc))))))))))) : EvP X (d + 1) gvm_95 0 (gv_enter [.ref w] 1) [] (G, (mI A, j), cc) P :=
  (pv_aload_n rfl rfl   (pv_aload_n rfl rfl   (pv_getP rfl rfl (oX10_k hw) (oX10_12 hw)   (pn_getI rfl rfl (oX1_k (oX10_12c hw)) rfl   (pv_virt rfl rfl rfl rfl rfl (oX10_k hw) rfl rfl rfl (c_opAt (c := (A (w + 9) 0)) (w := w) (A := A) hw H.1 H.2.1 ) (pn_iconst (u := 4294967295) rfl (by decide)   (pn_ic_ne rfl H.2.2.1 (by decide) (fun c1 => (pn_iconst rfl rfl   (pv_iretz rfl rfl (Or.inl rfl) (H.2.2.2.1 c1)))) (fun c1 => (pv_aload_n rfl rfl   (pv_aload_n rfl rfl   (pv_getP rfl rfl (oX10_k hw) (oX10_13 hw)   (pn_getI rfl rfl (oX1_k (oX10_13c hw)) rfl   (pv_virt rfl rfl rfl rfl rfl (oX10_k hw) rfl rfl rfl (c_opAt (c := (A (w + 11) 0)) (w := w) (A := A) hw (H.2.2.2.2 c1).1 (H.2.2.2.2 c1).2.1 ) (pn_iconst (u := 4294967295) rfl (by decide)   (pn_ic_ne rfl (H.2.2.2.2 c1).2.2.1 (by decide) (fun c2 => (pn_iconst rfl rfl   (pv_iretz rfl rfl (Or.inl rfl) ((H.2.2.2.2 c1).2.2.2.1 c2)))) (fun c2 => (pn_iconst rfl rfl   (pv_goto rfl (pv_iretz rfl rfl (Or.inr rfl) ((H.2.2.2.2 c1).2.2.2.2 c2))))))))))))))))))))
theorem rW_op {A : Nat → Nat → Nat} {w : Nat} {R : Nat → Nat} (h : rW A w R) (c : Nat) : (if c < A w 2 then A (w + 7) c else 4294967295) = (if c < R 3 then R (12 + c) else 4294967295) := by
  rw [h.2.1.1]
  by_cases z : c < R 3
  · rw [if_pos z, if_pos z, h.2.1.2 c z]
  · rw [if_neg z, if_neg z]
theorem c_bothHalted_p {X : gv_X} {d : Nat} {G : gv_Sh} {A : Nat → Nat → Nat} {j : Nat → Nat → Int64} {cc : gv_Rs} {P : gv_O × gv_S → Prop} {w : Nat} {R : Nat → Nat} (hw : oX10 G w) (p0 : okW R) (p1 : rW A w R) (hP : P (.inl (some (.int (zo (decide (R 3 ≤ R (102 + 13 * 0 + 0) ∧ R 3 ≤ R (102 + 13 * 1 + 0)))))), (G, (mI A, j), cc))) : EvP X (d + 1) gvm_95 0 (gv_enter [.ref w] 1) [] (G, (mI A, j), cc) P := by
  have n := okW_n p0
  have e0 := p1.2.2.2.2.1.1
  have e1 := p1.2.2.2.2.2.1.1
  have l0 := (okW_g p0 (g := 0) (by omega)).1
  have l1 := (okW_g p0 (g := 1) (by omega)).1
  have e2 := p1.2.1.1
  have key : ∀ c, ((if c < R 3 then R (12 + c) else 4294967295) < 4294967296) ∧ ((if c < R 3 then R (12 + c) else 4294967295) = 4294967295 ↔ R 3 ≤ c) := fun c => by
    by_cases z : c < R 3
    · have := okW_p p0 (k := c) (by omega)
      rw [if_pos z]; exact ⟨by omega, by omega⟩
    · rw [if_neg z]; exact ⟨by omega, by omega⟩
  refine w95 hw ?_
  rw [rW_op p1, rW_op p1, e0, e1]
  have k0 := key (R (102 + 13 * 0 + 0))
  have k1 := key (R (102 + 13 * 1 + 0))
  exact ⟨by omega, by omega, k0.1, fun c1 => qz0 hP (decide_eq_false (fun z => c1 (k0.2.mpr z.1))), fun c1 => ⟨by omega, by omega, k1.1, fun c2 => qz0 hP (decide_eq_false (fun z => c2 (k1.2.mpr z.2))), fun c2 => qz1 hP (decide_eq_true ⟨k0.2.mp c1, k1.2.mp c2⟩)⟩⟩
theorem c_bothHalted {X : gv_X} {d : Nat} {G : gv_Sh} {A : Nat → Nat → Nat} {j : Nat → Nat → Int64} {cc : gv_Rs} {w : Nat} {R : Nat → Nat} (hw : oX10 G w) (p0 : okW R) (p1 : rW A w R) : Ev X (d + 1) gvm_95 0 (gv_enter [.ref w] 1) [] (G, (mI A, j), cc) (.inl (some (.int (zo (decide (R 3 ≤ R (102 + 13 * 0 + 0) ∧ R 3 ≤ R (102 + 13 * 1 + 0)))))), (G, (mI A, j), cc)) := evp_det (c_bothHalted_p hw p0 p1 rfl)
theorem w99 {X : gv_X} {d : Nat} {G : gv_Sh} {A : Nat → Nat → Nat} {j : Nat → Nat → Int64} {cc : gv_Rs} {P : gv_O × gv_S → Prop} {w : Nat} {k : Nat} (hw : oX10 G w) (H : (k < 4294967296) ∧ (((k = 0) → P (.inl (some (.int (nI 1))), (G, (mI A, j), cc))) ∧ ((¬ k = 0) → (k < 4294967296) ∧ (((¬ k = 1) → P (.inl (some (.int (nI 0))), (G, (mI A, j), cc))) ∧ ((k = 1) → P (.inl (some (.int (nI 1))), (G, (mI A, j), cc))))))) : EvP X (d + 0) gvm_99 0 (gv_enter [.ref w, .int (nI k)] 2) [] (G, (mI A, j), cc) P :=
  (pv_iload_n rfl rfl   (pn_if_eq rfl H.1 (fun c1 => (pn_iconst rfl rfl   (pv_goto rfl (pv_iretz rfl rfl (Or.inr rfl) (H.2.1 c1))))) (fun c1 => (pv_iload_n rfl rfl   (pn_iconst rfl rfl   (pn_ic_ne rfl (H.2.2 c1).1 (by decide) (fun c2 => (pn_iconst rfl rfl   (pv_iretz rfl rfl (Or.inl rfl) ((H.2.2 c1).2.1 c2)))) (fun c2 => (pn_iconst rfl rfl   (pv_goto rfl (pv_iretz rfl rfl (Or.inr rfl) ((H.2.2 c1).2.2 c2)))))))))))
theorem c_isTrap_p {X : gv_X} {d : Nat} {G : gv_Sh} {A : Nat → Nat → Nat} {j : Nat → Nat → Int64} {cc : gv_Rs} {P : gv_O × gv_S → Prop} {w : Nat} {k : Nat} (hw : oX10 G w) (p0 : k < 4294967296) (hP : P (.inl (some (.int (zo (decide (k ≤ 1))))), (G, (mI A, j), cc))) : EvP X (d + 0) gvm_99 0 (gv_enter [.ref w, .int (nI k)] 2) [] (G, (mI A, j), cc) P := by
  refine w99 hw  ⟨by omega, ⟨fun c1 => ?_, fun c1 => ⟨by omega, ⟨fun c2 => ?_, fun c2 => ?_⟩⟩⟩⟩
  · exact qz1 hP (decide_eq_true (by omega))
  · exact qz0 hP (decide_eq_false (by omega))
  · exact qz1 hP (decide_eq_true (by omega))
theorem c_isTrap {X : gv_X} {d : Nat} {G : gv_Sh} {A : Nat → Nat → Nat} {j : Nat → Nat → Int64} {cc : gv_Rs} {w : Nat} {k : Nat} (hw : oX10 G w) (p0 : k < 4294967296) : Ev X (d + 0) gvm_99 0 (gv_enter [.ref w, .int (nI k)] 2) [] (G, (mI A, j), cc) (.inl (some (.int (zo (decide (k ≤ 1))))), (G, (mI A, j), cc)) := evp_det (c_isTrap_p hw p0 rfl)
