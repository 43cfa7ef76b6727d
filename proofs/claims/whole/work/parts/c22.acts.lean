/-! the class: acts -/
/-- what an act may change -/
def frJ (A B : Nat → Nat → Nat) : Prop := ∀ q, ¬ (2 ≤ q ∧ q ≤ 31) → ¬ (55 ≤ q ∧ q ≤ 63) → q ≠ 76 → ¬ (78 ≤ q ∧ q ≤ 257) → B q = A q
theorem frJ_rf (A : Nat → Nat → Nat) : frJ A A := fun _ _ _ _ _ => rfl
/-- done and remembered, or nothing -/
def acT (c : Nat) (A B : Nat → Nat → Nat) (R S : Nat → Nat) (Q : Nat → Nat → Nat) : Prop := (c = 0 → cK B S ∧ hI B (hcN R Q) ∧ B 76 1 = min 12 (A 76 1 + 1)) ∧ (¬ c = 0 → B = A)
def spS (m n v : Nat) : Nat × Nat := if m < n then (1, 0) else (0, v)
def spSt (R : Nat → Nat) (c n : Nat) : Nat × Nat := if 7 < c then (1, 0) else if 3 < n then (2, 0) else (0, R (22 + c))
theorem cK_ac {A B : Nat → Nat → Nat} {R S : Nat → Nat} (p0 : cK A R) (oS : okW S) (rS : rW B 2 S) (e : eqS R S) (f : ∀ q, 48 ≤ q → q ≤ 63 → B q = A q) : cK B S := ⟨oS, rS, knI_of (knI_S p0.1 p0.2.2.1 e) (f 55 (by omega) (by omega)), okLw_of p0.2.2.2.1 (e 2 (by omega)) (fun i hi => e i (by omega)), rRu_of (rRu_R p0.2.2.2.2.1 (fun i hi => e i (by omega))) (fun a x y => f a (by omega) (by omega)), smI_of (smI_S p0.1 p0.2.2.2.2.2 e) (f 61 (by omega) (by omega))⟩
theorem hI_of {A B : Nat → Nat → Nat} {Q : Nat → Nat → Nat} (h : hI A Q) (f : ∀ q, q = 76 ∨ (78 ≤ q ∧ q ≤ 257) → B q = A q) : hI B Q := by
  have e := f 76 (by omega)
  unfold hI
  rw [e]
  exact ⟨h.1, h.2.1, fun a ha => ⟨(h.2.2 a ha).1, rW_fr (h.2.2 a ha).2 (fun q x y => f q (by unfold hq at *; omega))⟩⟩
theorem eqS_bo (R : Nat → Nat) : eqS R (boR R) := fun i hi => eqG_bo R i (by omega)
theorem eqS_se {R : Nat → Nat} {k v : Nat} (h : k ≠ 0 ∧ k ≠ 2 ∧ k < 30) : eqS R (boR (seR R k v)) := fun i hi => (eqG_bo _ i (by omega)).trans (seR_ne (by omega))
theorem rW_c {A B : Nat → Nat → Nat} {R : Nat → Nat} {c n : Nat} (h : rW A 2 R) (o : okW R) (hc : c < 8) (f : ∀ q, q ≠ 10 → B q = A q) (h2 : ∀ k, B 10 k = if k = c then n else A 10 k) : rW B 2 (seR R (22 + c) n) := by
  have m := okW_n o
  have e : ∀ i, i < 22 ∨ 30 ≤ i → seR R (22 + c) n i = R i := fun i a => seR_ne (by omega)
  obtain ⟨a1, a2, a3, a4, a5, a6, a7⟩ := h
  refine ⟨rO_X (rO_fr a1 (fun a x y => f a (by omega))) o (fun i hi => e i (by omega)), rP_R (rP_of a2 (by rw [f 2 (by omega)]) (f _ (by omega))) m.2.2.2.1 (fun i hi => e i (by omega)), fun k hk => ?_, ?_, rC_R (rC_of a5 (f _ (by omega)) (f _ (by omega))) (fun i hi => e _ (by omega)), rC_R (rC_of a6 (f _ (by omega)) (f _ (by omega))) (fun i hi => e _ (by omega)), rL_R (rL_of a7 (f _ (by omega)) (f _ (by omega))) m.2.2.2.2.2.2.2.2.2.2.2.1 (fun i hi => e i (by omega))⟩
  · show B 10 k = _
    rw [h2 k]
    by_cases z : k = c
    · rw [if_pos z, z, seR_at]
    · rw [if_neg z, seR_ne (by omega)]; exact a3 k hk
  · unfold rN
    rw [f 2 (by omega), e 4 (by omega), e 5 (by omega), e 6 (by omega), e 7 (by omega), e 8 (by omega), e 9 (by omega), e 11 (by omega), e 1 (by omega)]
    exact a4
theorem w131 {X : gv_X} {d : Nat} {G : gv_Sh} {A : Nat → Nat → Nat} {j : Nat → Nat → Int64} {cc : gv_Rs} {P : gv_O × gv_S → Prop} {R : Nat → Nat} {Q : Nat → Nat → Nat} (hp0 : oX11 G 0) (H : (okW R) ∧ ((rW A 2 R) ∧ ((hI A Q) ∧ ((∀ A1v1 : Nat → Nat → Nat, ((hI A1v1 (hcN R Q)) ∧ (A1v1 76 1 = min 12 (A 76 1 + 1)) ∧ (∀ q, q ≠ 76 → (q < 78 ∨ 257 < q) → A1v1 q = A q)) → (okW R) ∧ ((rW A1v1 2 R) ∧ ((∀ A1v2 : Nat → Nat → Nat, ((rW A1v2 2 (boR R)) ∧ (∀ q, q ≠ 2 + 9 → q ≠ 2 + 10 → q ≠ 2 + 11 → q ≠ 2 + 12 → A1v2 q = A1v1 q)) → P (.inl none, (G, (mI A1v2, j), cc)))))))))) : EvP X (d + 3) gvm_131 0 (gv_enter [.ref 0] 1) [] (G, (mI A, j), cc) P :=
  (pv_aload_n rfl rfl   (pv_getP rfl rfl (oX11_k hp0) (oX11_10 hp0)   (pv_aload_n rfl rfl   (pv_getP rfl rfl (oX11_k hp0) (oX11_3 hp0)   (match (c_remember (R := R) (Q := Q) (A := A) (X := X) (d := d + 0) (G := G) (j := j) (cc := cc) (oX11_10c hp0) (oX11_3c hp0) H.1 H.2.1 H.2.2.1 ) with | ⟨A1v1, e2x8, h1⟩ => pv_virt rfl rfl rfl rfl rfl (oX2_k (oX11_10c hp0)) rfl rfl rfl e2x8 (pv_aload_n rfl rfl   (pv_getP rfl rfl (oX11_k hp0) (oX11_3 hp0)   (match (c_startWorld (R := R) (A := A1v1) (X := X) (d := d + 1) (G := G) (j := j) (cc := cc) (oX11_3c hp0) (H.2.2.2 A1v1 h1).1 (H.2.2.2 A1v1 h1).2.1 ) with | ⟨A1v2, e2x15, h2⟩ => pv_virt rfl rfl rfl rfl rfl (oX10_k (oX11_3c hp0)) rfl rfl rfl e2x15 (pv_vret rfl ((H.2.2.2 A1v1 h1).2.2 A1v2 h2))))))))))
theorem c_boot_p {X : gv_X} {d : Nat} {G : gv_Sh} {A : Nat → Nat → Nat} {j : Nat → Nat → Int64} {cc : gv_Rs} {P : gv_O × gv_S → Prop} {R : Nat → Nat} {Q : Nat → Nat → Nat} (hp0 : oX11 G 0) (p0 : cK A R) (p1 : hI A Q) (hP : ∀ A1 : Nat → Nat → Nat, (acT 0 A A1 R (boR R) Q) ∧ (frJ A A1) → P (.inl none, (G, (mI A1, j), cc))) : EvP X (d + 3) gvm_131 0 (gv_enter [.ref 0] 1) [] (G, (mI A, j), cc) P := by
  refine w131 (R := R) (Q := Q) hp0 ⟨p0.1, p0.2.1, p1, fun B h1 => ⟨p0.1, rW_fr p0.2.1 (fun q a b => h1.2.2 q (by omega) (by omega)), fun C h2 => hP C ⟨⟨fun _ => ⟨cK_ac p0 (okW_bo p0.1) h2.1 (eqS_bo R) (fun q a b => ?_), hI_of h1.1 (fun q a => h2.2 q (by omega) (by omega) (by omega) (by omega)), ?_⟩, fun z => absurd rfl z⟩, fun q a b c e => ?_⟩⟩⟩
  · rw [h2.2 q (by omega) (by omega) (by omega) (by omega)]; exact h1.2.2 q (by omega) (by omega)
  · rw [h2.2 76 (by omega) (by omega) (by omega) (by omega)]; exact h1.2.1
  · rw [h2.2 q (by omega) (by omega) (by omega) (by omega)]; exact h1.2.2 q (by omega) (by omega)
theorem c_boot {X : gv_X} {d : Nat} {G : gv_Sh} {A : Nat → Nat → Nat} {j : Nat → Nat → Int64} {cc : gv_Rs} {R : Nat → Nat} {Q : Nat → Nat → Nat} (hp0 : oX11 G 0) (p0 : cK A R) (p1 : hI A Q) : ∃ A1 : Nat → Nat → Nat, Ev X (d + 3) gvm_131 0 (gv_enter [.ref 0] 1) [] (G, (mI A, j), cc) (.inl none, (G, (mI A1, j), cc)) ∧ (acT 0 A A1 R (boR R) Q) ∧ (frJ A A1) := by
  obtain ⟨_, h, A1, rfl, hp⟩ := c_boot_p (X := X) (d := d) (G := G) (A := A) (j := j) (cc := cc) (R := R) (Q := Q) (P := fun r => ∃ A1 : Nat → Nat → Nat, r = (.inl none, (G, (mI A1, j), cc)) ∧ (acT 0 A A1 R (boR R) Q) ∧ (frJ A A1)) hp0 p0 p1 (fun A1 h => ⟨A1, rfl, h⟩)
  exact ⟨A1, h, hp⟩
theorem w137 {X : gv_X} {d : Nat} {G : gv_Sh} {A : Nat → Nat → Nat} {j : Nat → Nat → Int64} {cc : gv_Rs} {P : gv_O × gv_S → Prop} {n : Nat} {R : Nat → Nat} {Q : Nat → Nat → Nat} (hp0 : oX11 G 0) (H : (n < 4294967296) ∧ ((((0 ≤ n ∧ n ≤ 9)) → (okW R) ∧ ((rW A 2 R) ∧ ((hI A Q) ∧ ((∀ A1v2 : Nat → Nat → Nat, ((hI A1v2 (hcN R Q)) ∧ (A1v2 76 1 = min 12 (A 76 1 + 1)) ∧ (∀ q, q ≠ 76 → (q < 78 ∨ 257 < q) → A1v2 q = A q)) → (okW (seR R 4 n)) ∧ ((rW (gu A1v2 2 4 n) 2 (seR R 4 n)) ∧ ((∀ A1v3 : Nat → Nat → Nat, ((rW A1v3 2 (boR (seR R 4 n))) ∧ (∀ q, q ≠ 2 + 9 → q ≠ 2 + 10 → q ≠ 2 + 11 → q ≠ 2 + 12 → A1v3 q = (gu A1v2 2 4 n) q)) → P (.inl (some (.int (nI (A1v2 2 4)))), (G, (mI A1v3, j), cc)))))))))) ∧ ((¬ (0 ≤ n ∧ n ≤ 9)) → P (.inr 0, gv_ex (G, (mI A, j), cc))))) : EvP X (d + 3) gvm_137 0 (gv_enter [.ref 0, .int (nI n)] 3) [] (G, (mI A, j), cc) P :=
  (pv_aload_n rfl rfl   (pv_iload_n rfl rfl   (pn_iconst rfl rfl   (pn_bipush rfl rfl   (Or.elim (Decidable.em ((0 ≤ n ∧ n ≤ 9))) (fun c1 => pv_virt rfl rfl rfl rfl rfl (oX11_k hp0) rfl rfl rfl (c_needNumber (n := n) (lo := 0) (hi := 9) (A := A) hp0 H.1 (by decide) (by decide) c1) (pv_aload_n rfl rfl   (pv_getP rfl rfl (oX11_k hp0) (oX11_10 hp0)   (pv_aload_n rfl rfl   (pv_getP rfl rfl (oX11_k hp0) (oX11_3 hp0)   (match (c_remember (R := R) (Q := Q) (A := A) (X := X) (d := d + 0) (G := G) (j := j) (cc := cc) (oX11_10c hp0) (oX11_3c hp0) (H.2.1 c1).1 (H.2.1 c1).2.1 (H.2.1 c1).2.2.1 ) with | ⟨A1v2, e3x16, h2⟩ => pv_virt rfl rfl rfl rfl rfl (oX2_k (oX11_10c hp0)) rfl rfl rfl e3x16 (pv_aload_n rfl rfl   (pv_getP rfl rfl (oX11_k hp0) (oX11_3 hp0)   (pn_getI rfl rfl (oX10_k (oX11_3c hp0)) rfl   (pv_istore_n rfl rfl   (pv_aload_n rfl rfl   (pv_getP rfl rfl (oX11_k hp0) (oX11_3 hp0)   (pv_iload_n rfl rfl   (pn_putI rfl rfl (oX10_k (oX11_3c hp0))   (pv_aload_n rfl rfl   (pv_getP rfl rfl (oX11_k hp0) (oX11_3 hp0)   (match (c_startWorld (R := (seR R 4 n)) (A := (gu A1v2 2 4 n)) (X := X) (d := d + 1) (G := G) (j := j) (cc := cc) (oX11_3c hp0) ((H.2.1 c1).2.2.2 A1v2 h2).1 ((H.2.1 c1).2.2.2 A1v2 h2).2.1 ) with | ⟨A1v3, e3x39, h3⟩ => pv_virt rfl rfl rfl rfl rfl (oX10_k (oX11_3c hp0)) rfl rfl rfl e3x39 (pv_iload_n rfl rfl   (pv_ireti rfl rfl (((H.2.1 c1).2.2.2 A1v2 h2).2.2 A1v3 h3)))))))))))))))))))) (fun c1 => pv_virtT rfl rfl rfl rfl rfl (oX11_k hp0) rfl rfl rfl rfl (c_needNumber_x (n := n) (lo := 0) (hi := 9) (A := A) hp0 H.1 (by decide) (by decide) c1) (H.2.2 c1)))))))
theorem c_vector_p {X : gv_X} {d : Nat} {G : gv_Sh} {A : Nat → Nat → Nat} {j : Nat → Nat → Int64} {cc : gv_Rs} {P : gv_O × gv_S → Prop} {n : Nat} {R : Nat → Nat} {Q : Nat → Nat → Nat} (hp0 : oX11 G 0) (p0 : cK A R) (p1 : hI A Q) (p2 : n < 4294967296) (hP : ∀ A1 : Nat → Nat → Nat, (acT (spS 9 n (R 4)).1 A A1 R (boR (seR R 4 n)) Q) ∧ (frJ A A1) → P (oc (fun _ => 0) (spS 9 n (R 4)).1 (spS 9 n (R 4)).2 (G, (mI A1, j), cc))) : EvP X (d + 3) gvm_137 0 (gv_enter [.ref 0, .int (nI n)] 3) [] (G, (mI A, j), cc) P := by
  have ok : ∀ B x, acT (spS 9 n (R 4)).1 A B R (boR (seR R 4 n)) Q ∧ frJ A B → spS 9 n (R 4) = (0, x) → P (.inl (some (.int (nI x))), (G, (mI B, j), cc)) := fun B x h1 h3 => by
    have := hP B h1
    rw [h3] at this
    exact this
  have no1 : ∀ B, acT (spS 9 n (R 4)).1 A B R (boR (seR R 4 n)) Q ∧ frJ A B → spS 9 n (R 4) = (1, 0) → P (.inr 0, gv_ex (G, (mI B, j), cc)) := fun B h1 h3 => by
    have := hP B h1
    rw [h3] at this
    exact this
  have n0 := okW_n p0.1
  refine w137 (R := R) (Q := Q) hp0 ⟨p2, fun c1 => ⟨p0.1, p0.2.1, p1, fun B h1 => ?_⟩, fun c1 => ?_⟩
  · have sp0 : spS 9 n (R 4) = (0, R 4) := if_neg (by omega)
    have oS : okW (seR R 4 n) := okW_v p0.1 (Or.inl ⟨rfl, c1.2⟩)
    have rB : rW B 2 R := rW_fr p0.2.1 (fun q a b => h1.2.2 q (by omega) (by omega))
    have e4 : B 2 4 = R 4 := rB.2.2.2.1.1
    have rS : rW (gu B 2 4 n) 2 (seR R 4 n) := by
      obtain ⟨n1, n2, n3, n4, n5, n6, n7, n8⟩ := rB.2.2.2.1
      exact rW_n rB p0.1 (fun i hi => seR_ne (by omega)) ⟨rfl, n2, n3, n4, n5, n6, n7, n8⟩ (fun q hq => gu_row hq) rfl
    rw [e4]
    refine ⟨oS, rS, fun C h2 => ?_⟩
    have fC : ∀ q, ¬ (2 ≤ q ∧ q ≤ 16) → C q = B q := fun q a => (h2.2 q (by omega) (by omega) (by omega) (by omega)).trans (gu_row (by omega))
    refine ok C _ ⟨⟨fun _ => ⟨cK_ac p0 (okW_bo oS) h2.1 (eqS_se (by decide)) (fun q a b => (fC q (by omega)).trans (h1.2.2 q (by omega) (by omega))), hI_of h1.1 (fun q a => fC q (by omega)), ?_⟩, fun z => absurd (by rw [sp0]) z⟩, fun q a b c e => (fC q (by omega)).trans (h1.2.2 q c (by omega))⟩ sp0
    rw [fC 76 (by omega)]; exact h1.2.1
  · have sp1 : spS 9 n (R 4) = (1, 0) := if_pos (by omega)
    exact no1 A ⟨⟨fun z => absurd z (by rw [sp1]; decide), fun _ => rfl⟩, frJ_rf A⟩ sp1
theorem w139 {X : gv_X} {d : Nat} {G : gv_Sh} {A : Nat → Nat → Nat} {j : Nat → Nat → Int64} {cc : gv_Rs} {P : gv_O × gv_S → Prop} {n : Nat} {R : Nat → Nat} {Q : Nat → Nat → Nat} (hp0 : oX11 G 0) (H : (n < 4294967296) ∧ ((((0 ≤ n ∧ n ≤ 7)) → (okW R) ∧ ((rW A 2 R) ∧ ((hI A Q) ∧ ((∀ A1v2 : Nat → Nat → Nat, ((hI A1v2 (hcN R Q)) ∧ (A1v2 76 1 = min 12 (A 76 1 + 1)) ∧ (∀ q, q ≠ 76 → (q < 78 ∨ 257 < q) → A1v2 q = A q)) → (okW (seR R 6 n)) ∧ ((rW (gu A1v2 2 6 n) 2 (seR R 6 n)) ∧ ((∀ A1v3 : Nat → Nat → Nat, ((rW A1v3 2 (boR (seR R 6 n))) ∧ (∀ q, q ≠ 2 + 9 → q ≠ 2 + 10 → q ≠ 2 + 11 → q ≠ 2 + 12 → A1v3 q = (gu A1v2 2 6 n) q)) → P (.inl (some (.int (nI (A1v2 2 6)))), (G, (mI A1v3, j), cc)))))))))) ∧ ((¬ (0 ≤ n ∧ n ≤ 7)) → P (.inr 0, gv_ex (G, (mI A, j), cc))))) : EvP X (d + 3) gvm_139 0 (gv_enter [.ref 0, .int (nI n)] 3) [] (G, (mI A, j), cc) P :=
  (pv_aload_n rfl rfl   (pv_iload_n rfl rfl   (pn_iconst rfl rfl   (pn_bipush rfl rfl   (Or.elim (Decidable.em ((0 ≤ n ∧ n ≤ 7))) (fun c1 => pv_virt rfl rfl rfl rfl rfl (oX11_k hp0) rfl rfl rfl (c_needNumber (n := n) (lo := 0) (hi := 7) (A := A) hp0 H.1 (by decide) (by decide) c1) (pv_aload_n rfl rfl   (pv_getP rfl rfl (oX11_k hp0) (oX11_10 hp0)   (pv_aload_n rfl rfl   (pv_getP rfl rfl (oX11_k hp0) (oX11_3 hp0)   (match (c_remember (R := R) (Q := Q) (A := A) (X := X) (d := d + 0) (G := G) (j := j) (cc := cc) (oX11_10c hp0) (oX11_3c hp0) (H.2.1 c1).1 (H.2.1 c1).2.1 (H.2.1 c1).2.2.1 ) with | ⟨A1v2, e3x16, h2⟩ => pv_virt rfl rfl rfl rfl rfl (oX2_k (oX11_10c hp0)) rfl rfl rfl e3x16 (pv_aload_n rfl rfl   (pv_getP rfl rfl (oX11_k hp0) (oX11_3 hp0)   (pn_getI rfl rfl (oX10_k (oX11_3c hp0)) rfl   (pv_istore_n rfl rfl   (pv_aload_n rfl rfl   (pv_getP rfl rfl (oX11_k hp0) (oX11_3 hp0)   (pv_iload_n rfl rfl   (pn_putI rfl rfl (oX10_k (oX11_3c hp0))   (pv_aload_n rfl rfl   (pv_getP rfl rfl (oX11_k hp0) (oX11_3 hp0)   (match (c_startWorld (R := (seR R 6 n)) (A := (gu A1v2 2 6 n)) (X := X) (d := d + 1) (G := G) (j := j) (cc := cc) (oX11_3c hp0) ((H.2.1 c1).2.2.2 A1v2 h2).1 ((H.2.1 c1).2.2.2 A1v2 h2).2.1 ) with | ⟨A1v3, e3x39, h3⟩ => pv_virt rfl rfl rfl rfl rfl (oX10_k (oX11_3c hp0)) rfl rfl rfl e3x39 (pv_iload_n rfl rfl   (pv_ireti rfl rfl (((H.2.1 c1).2.2.2 A1v2 h2).2.2 A1v3 h3)))))))))))))))))))) (fun c1 => pv_virtT rfl rfl rfl rfl rfl (oX11_k hp0) rfl rfl rfl rfl (c_needNumber_x (n := n) (lo := 0) (hi := 7) (A := A) hp0 H.1 (by decide) (by decide) c1) (H.2.2 c1)))))))
theorem c_cost_p {X : gv_X} {d : Nat} {G : gv_Sh} {A : Nat → Nat → Nat} {j : Nat → Nat → Int64} {cc : gv_Rs} {P : gv_O × gv_S → Prop} {n : Nat} {R : Nat → Nat} {Q : Nat → Nat → Nat} (hp0 : oX11 G 0) (p0 : cK A R) (p1 : hI A Q) (p2 : n < 4294967296) (hP : ∀ A1 : Nat → Nat → Nat, (acT (spS 7 n (R 6)).1 A A1 R (boR (seR R 6 n)) Q) ∧ (frJ A A1) → P (oc (fun _ => 0) (spS 7 n (R 6)).1 (spS 7 n (R 6)).2 (G, (mI A1, j), cc))) : EvP X (d + 3) gvm_139 0 (gv_enter [.ref 0, .int (nI n)] 3) [] (G, (mI A, j), cc) P := by
  have ok : ∀ B x, acT (spS 7 n (R 6)).1 A B R (boR (seR R 6 n)) Q ∧ frJ A B → spS 7 n (R 6) = (0, x) → P (.inl (some (.int (nI x))), (G, (mI B, j), cc)) := fun B x h1 h3 => by
    have := hP B h1
    rw [h3] at this
    exact this
  have no1 : ∀ B, acT (spS 7 n (R 6)).1 A B R (boR (seR R 6 n)) Q ∧ frJ A B → spS 7 n (R 6) = (1, 0) → P (.inr 0, gv_ex (G, (mI B, j), cc)) := fun B h1 h3 => by
    have := hP B h1
    rw [h3] at this
    exact this
  have n0 := okW_n p0.1
  refine w139 (R := R) (Q := Q) hp0 ⟨p2, fun c1 => ⟨p0.1, p0.2.1, p1, fun B h1 => ?_⟩, fun c1 => ?_⟩
  · have sp0 : spS 7 n (R 6) = (0, R 6) := if_neg (by omega)
    have oS : okW (seR R 6 n) := okW_v p0.1 (Or.inr (Or.inr (Or.inl ⟨rfl, c1.2⟩)))
    have rB : rW B 2 R := rW_fr p0.2.1 (fun q a b => h1.2.2 q (by omega) (by omega))
    have e4 : B 2 6 = R 6 := rB.2.2.2.1.2.2.1
    have rS : rW (gu B 2 6 n) 2 (seR R 6 n) := by
      obtain ⟨n1, n2, n3, n4, n5, n6, n7, n8⟩ := rB.2.2.2.1
      exact rW_n rB p0.1 (fun i hi => seR_ne (by omega)) ⟨n1, n2, rfl, n4, n5, n6, n7, n8⟩ (fun q hq => gu_row hq) rfl
    rw [e4]
    refine ⟨oS, rS, fun C h2 => ?_⟩
    have fC : ∀ q, ¬ (2 ≤ q ∧ q ≤ 16) → C q = B q := fun q a => (h2.2 q (by omega) (by omega) (by omega) (by omega)).trans (gu_row (by omega))
    refine ok C _ ⟨⟨fun _ => ⟨cK_ac p0 (okW_bo oS) h2.1 (eqS_se (by decide)) (fun q a b => (fC q (by omega)).trans (h1.2.2 q (by omega) (by omega))), hI_of h1.1 (fun q a => fC q (by omega)), ?_⟩, fun z => absurd (by rw [sp0]) z⟩, fun q a b c e => (fC q (by omega)).trans (h1.2.2 q c (by omega))⟩ sp0
    rw [fC 76 (by omega)]; exact h1.2.1
  · have sp1 : spS 7 n (R 6) = (1, 0) := if_pos (by omega)
    exact no1 A ⟨⟨fun z => absurd z (by rw [sp1]; decide), fun _ => rfl⟩, frJ_rf A⟩ sp1
theorem w140 {X : gv_X} {d : Nat} {G : gv_Sh} {A : Nat → Nat → Nat} {j : Nat → Nat → Int64} {cc : gv_Rs} {P : gv_O × gv_S → Prop} {n : Nat} {R : Nat → Nat} {Q : Nat → Nat → Nat} (hp0 : oX11 G 0) (H : (n < 4294967296) ∧ ((((0 ≤ n ∧ n ≤ 100)) → (okW R) ∧ ((rW A 2 R) ∧ ((hI A Q) ∧ ((∀ A1v2 : Nat → Nat → Nat, ((hI A1v2 (hcN R Q)) ∧ (A1v2 76 1 = min 12 (A 76 1 + 1)) ∧ (∀ q, q ≠ 76 → (q < 78 ∨ 257 < q) → A1v2 q = A q)) → (okW (seR R 7 n)) ∧ ((rW (gu A1v2 2 7 n) 2 (seR R 7 n)) ∧ ((∀ A1v3 : Nat → Nat → Nat, ((rW A1v3 2 (boR (seR R 7 n))) ∧ (∀ q, q ≠ 2 + 9 → q ≠ 2 + 10 → q ≠ 2 + 11 → q ≠ 2 + 12 → A1v3 q = (gu A1v2 2 7 n) q)) → P (.inl (some (.int (nI (A1v2 2 7)))), (G, (mI A1v3, j), cc)))))))))) ∧ ((¬ (0 ≤ n ∧ n ≤ 100)) → P (.inr 0, gv_ex (G, (mI A, j), cc))))) : EvP X (d + 3) gvm_140 0 (gv_enter [.ref 0, .int (nI n)] 3) [] (G, (mI A, j), cc) P :=
  (pv_aload_n rfl rfl   (pv_iload_n rfl rfl   (pn_iconst rfl rfl   (pn_bipush rfl rfl   (Or.elim (Decidable.em ((0 ≤ n ∧ n ≤ 100))) (fun c1 => pv_virt rfl rfl rfl rfl rfl (oX11_k hp0) rfl rfl rfl (c_needNumber (n := n) (lo := 0) (hi := 100) (A := A) hp0 H.1 (by decide) (by decide) c1) (pv_aload_n rfl rfl   (pv_getP rfl rfl (oX11_k hp0) (oX11_10 hp0)   (pv_aload_n rfl rfl   (pv_getP rfl rfl (oX11_k hp0) (oX11_3 hp0)   (match (c_remember (R := R) (Q := Q) (A := A) (X := X) (d := d + 0) (G := G) (j := j) (cc := cc) (oX11_10c hp0) (oX11_3c hp0) (H.2.1 c1).1 (H.2.1 c1).2.1 (H.2.1 c1).2.2.1 ) with | ⟨A1v2, e3x16, h2⟩ => pv_virt rfl rfl rfl rfl rfl (oX2_k (oX11_10c hp0)) rfl rfl rfl e3x16 (pv_aload_n rfl rfl   (pv_getP rfl rfl (oX11_k hp0) (oX11_3 hp0)   (pn_getI rfl rfl (oX10_k (oX11_3c hp0)) rfl   (pv_istore_n rfl rfl   (pv_aload_n rfl rfl   (pv_getP rfl rfl (oX11_k hp0) (oX11_3 hp0)   (pv_iload_n rfl rfl   (pn_putI rfl rfl (oX10_k (oX11_3c hp0))   (pv_aload_n rfl rfl   (pv_getP rfl rfl (oX11_k hp0) (oX11_3 hp0)   (match (c_startWorld (R := (seR R 7 n)) (A := (gu A1v2 2 7 n)) (X := X) (d := d + 1) (G := G) (j := j) (cc := cc) (oX11_3c hp0) ((H.2.1 c1).2.2.2 A1v2 h2).1 ((H.2.1 c1).2.2.2 A1v2 h2).2.1 ) with | ⟨A1v3, e3x39, h3⟩ => pv_virt rfl rfl rfl rfl rfl (oX10_k (oX11_3c hp0)) rfl rfl rfl e3x39 (pv_iload_n rfl rfl   (pv_ireti rfl rfl (((H.2.1 c1).2.2.2 A1v2 h2).2.2 A1v3 h3)))))))))))))))))))) (fun c1 => pv_virtT rfl rfl rfl rfl rfl (oX11_k hp0) rfl rfl rfl rfl (c_needNumber_x (n := n) (lo := 0) (hi := 100) (A := A) hp0 H.1 (by decide) (by decide) c1) (H.2.2 c1)))))))
theorem c_alarm_p {X : gv_X} {d : Nat} {G : gv_Sh} {A : Nat → Nat → Nat} {j : Nat → Nat → Int64} {cc : gv_Rs} {P : gv_O × gv_S → Prop} {n : Nat} {R : Nat → Nat} {Q : Nat → Nat → Nat} (hp0 : oX11 G 0) (p0 : cK A R) (p1 : hI A Q) (p2 : n < 4294967296) (hP : ∀ A1 : Nat → Nat → Nat, (acT (spS 100 n (R 7)).1 A A1 R (boR (seR R 7 n)) Q) ∧ (frJ A A1) → P (oc (fun _ => 0) (spS 100 n (R 7)).1 (spS 100 n (R 7)).2 (G, (mI A1, j), cc))) : EvP X (d + 3) gvm_140 0 (gv_enter [.ref 0, .int (nI n)] 3) [] (G, (mI A, j), cc) P := by
  have ok : ∀ B x, acT (spS 100 n (R 7)).1 A B R (boR (seR R 7 n)) Q ∧ frJ A B → spS 100 n (R 7) = (0, x) → P (.inl (some (.int (nI x))), (G, (mI B, j), cc)) := fun B x h1 h3 => by
    have := hP B h1
    rw [h3] at this
    exact this
  have no1 : ∀ B, acT (spS 100 n (R 7)).1 A B R (boR (seR R 7 n)) Q ∧ frJ A B → spS 100 n (R 7) = (1, 0) → P (.inr 0, gv_ex (G, (mI B, j), cc)) := fun B h1 h3 => by
    have := hP B h1
    rw [h3] at this
    exact this
  have n0 := okW_n p0.1
  refine w140 (R := R) (Q := Q) hp0 ⟨p2, fun c1 => ⟨p0.1, p0.2.1, p1, fun B h1 => ?_⟩, fun c1 => ?_⟩
  · have sp0 : spS 100 n (R 7) = (0, R 7) := if_neg (by omega)
    have oS : okW (seR R 7 n) := okW_v p0.1 (Or.inr (Or.inr (Or.inr (Or.inl ⟨rfl, c1.2⟩))))
    have rB : rW B 2 R := rW_fr p0.2.1 (fun q a b => h1.2.2 q (by omega) (by omega))
    have e4 : B 2 7 = R 7 := rB.2.2.2.1.2.2.2.1
    have rS : rW (gu B 2 7 n) 2 (seR R 7 n) := by
      obtain ⟨n1, n2, n3, n4, n5, n6, n7, n8⟩ := rB.2.2.2.1
      exact rW_n rB p0.1 (fun i hi => seR_ne (by omega)) ⟨n1, n2, n3, rfl, n5, n6, n7, n8⟩ (fun q hq => gu_row hq) rfl
    rw [e4]
    refine ⟨oS, rS, fun C h2 => ?_⟩
    have fC : ∀ q, ¬ (2 ≤ q ∧ q ≤ 16) → C q = B q := fun q a => (h2.2 q (by omega) (by omega) (by omega) (by omega)).trans (gu_row (by omega))
    refine ok C _ ⟨⟨fun _ => ⟨cK_ac p0 (okW_bo oS) h2.1 (eqS_se (by decide)) (fun q a b => (fC q (by omega)).trans (h1.2.2 q (by omega) (by omega))), hI_of h1.1 (fun q a => fC q (by omega)), ?_⟩, fun z => absurd (by rw [sp0]) z⟩, fun q a b c e => (fC q (by omega)).trans (h1.2.2 q c (by omega))⟩ sp0
    rw [fC 76 (by omega)]; exact h1.2.1
  · have sp1 : spS 100 n (R 7) = (1, 0) := if_pos (by omega)
    exact no1 A ⟨⟨fun z => absurd z (by rw [sp1]; decide), fun _ => rfl⟩, frJ_rf A⟩ sp1
theorem w138 {X : gv_X} {d : Nat} {G : gv_Sh} {A : Nat → Nat → Nat} {j : Nat → Nat → Int64} {cc : gv_Rs} {P : gv_O × gv_S → Prop} {n : Nat} {R : Nat → Nat} {Q : Nat → Nat → Nat} (hp0 : oX11 G 0) (H : (n < 4294967296) ∧ ((((0 ≤ n ∧ n ≤ 3)) → (okW R) ∧ ((rW A 2 R) ∧ ((hI A Q) ∧ ((∀ A1v2 : Nat → Nat → Nat, ((hI A1v2 (hcN R Q)) ∧ (A1v2 76 1 = min 12 (A 76 1 + 1)) ∧ (∀ q, q ≠ 76 → (q < 78 ∨ 257 < q) → A1v2 q = A q)) → ((A1v2 2 5) < 2147483648) ∧ ((okW (seR R 5 (2 * n))) ∧ ((rW (gu A1v2 2 5 (2 * n)) 2 (seR R 5 (2 * n))) ∧ ((∀ A1v3 : Nat → Nat → Nat, ((rW A1v3 2 (boR (seR R 5 (2 * n)))) ∧ (∀ q, q ≠ 2 + 9 → q ≠ 2 + 10 → q ≠ 2 + 11 → q ≠ 2 + 12 → A1v3 q = (gu A1v2 2 5 (2 * n)) q)) → P (.inl (some (.int (nI ((A1v2 2 5) / 2)))), (G, (mI A1v3, j), cc))))))))))) ∧ ((¬ (0 ≤ n ∧ n ≤ 3)) → P (.inr 0, gv_ex (G, (mI A, j), cc))))) : EvP X (d + 3) gvm_138 0 (gv_enter [.ref 0, .int (nI n)] 3) [] (G, (mI A, j), cc) P :=
  (pv_aload_n rfl rfl   (pv_iload_n rfl rfl   (pn_iconst rfl rfl   (pn_iconst rfl rfl   (Or.elim (Decidable.em ((0 ≤ n ∧ n ≤ 3))) (fun c1 => pv_virt rfl rfl rfl rfl rfl (oX11_k hp0) rfl rfl rfl (c_needNumber (n := n) (lo := 0) (hi := 3) (A := A) hp0 H.1 (by decide) (by decide) c1) (pv_aload_n rfl rfl   (pv_getP rfl rfl (oX11_k hp0) (oX11_10 hp0)   (pv_aload_n rfl rfl   (pv_getP rfl rfl (oX11_k hp0) (oX11_3 hp0)   (match (c_remember (R := R) (Q := Q) (A := A) (X := X) (d := d + 0) (G := G) (j := j) (cc := cc) (oX11_10c hp0) (oX11_3c hp0) (H.2.1 c1).1 (H.2.1 c1).2.1 (H.2.1 c1).2.2.1 ) with | ⟨A1v2, e3x15, h2⟩ => pv_virt rfl rfl rfl rfl rfl (oX2_k (oX11_10c hp0)) rfl rfl rfl e3x15 (pv_aload_n rfl rfl   (pv_getP rfl rfl (oX11_k hp0) (oX11_3 hp0)   (pn_getI rfl rfl (oX10_k (oX11_3c hp0)) rfl   (pn_iconst rfl rfl   (pn_idiv rfl ((H.2.1 c1).2.2.2 A1v2 h2).1 (by decide) (by decide)  (pv_istore_n rfl rfl   (pv_aload_n rfl rfl   (pv_getP rfl rfl (oX11_k hp0) (oX11_3 hp0)   (pn_iconst rfl rfl   (pv_iload_n rfl rfl   (pn_imul rfl   (pn_putI rfl rfl (oX10_k (oX11_3c hp0))   (pv_aload_n rfl rfl   (pv_getP rfl rfl (oX11_k hp0) (oX11_3 hp0)   (match (c_startWorld (R := (seR R 5 (2 * n))) (A := (gu A1v2 2 5 (2 * n))) (X := X) (d := d + 1) (G := G) (j := j) (cc := cc) (oX11_3c hp0) ((H.2.1 c1).2.2.2 A1v2 h2).2.1 ((H.2.1 c1).2.2.2 A1v2 h2).2.2.1 ) with | ⟨A1v3, e3x42, h3⟩ => pv_virt rfl rfl rfl rfl rfl (oX10_k (oX11_3c hp0)) rfl rfl rfl e3x42 (pv_iload_n rfl rfl   (pv_ireti rfl rfl (((H.2.1 c1).2.2.2 A1v2 h2).2.2.2 A1v3 h3)))))))))))))))))))))))) (fun c1 => pv_virtT rfl rfl rfl rfl rfl (oX11_k hp0) rfl rfl rfl rfl (c_needNumber_x (n := n) (lo := 0) (hi := 3) (A := A) hp0 H.1 (by decide) (by decide) c1) (H.2.2 c1)))))))
theorem c_shift_p {X : gv_X} {d : Nat} {G : gv_Sh} {A : Nat → Nat → Nat} {j : Nat → Nat → Int64} {cc : gv_Rs} {P : gv_O × gv_S → Prop} {n : Nat} {R : Nat → Nat} {Q : Nat → Nat → Nat} (hp0 : oX11 G 0) (p0 : cK A R) (p1 : hI A Q) (p2 : n < 4294967296) (hP : ∀ A1 : Nat → Nat → Nat, (acT (spS 3 n (R 5 / 2)).1 A A1 R (boR (seR R 5 (2 * n))) Q) ∧ (frJ A A1) → P (oc (fun _ => 0) (spS 3 n (R 5 / 2)).1 (spS 3 n (R 5 / 2)).2 (G, (mI A1, j), cc))) : EvP X (d + 3) gvm_138 0 (gv_enter [.ref 0, .int (nI n)] 3) [] (G, (mI A, j), cc) P := by
  have ok : ∀ B x, acT (spS 3 n (R 5 / 2)).1 A B R (boR (seR R 5 (2 * n))) Q ∧ frJ A B → spS 3 n (R 5 / 2) = (0, x) → P (.inl (some (.int (nI x))), (G, (mI B, j), cc)) := fun B x h1 h3 => by
    have := hP B h1
    rw [h3] at this
    exact this
  have no1 : ∀ B, acT (spS 3 n (R 5 / 2)).1 A B R (boR (seR R 5 (2 * n))) Q ∧ frJ A B → spS 3 n (R 5 / 2) = (1, 0) → P (.inr 0, gv_ex (G, (mI B, j), cc)) := fun B h1 h3 => by
    have := hP B h1
    rw [h3] at this
    exact this
  have n0 := okW_n p0.1
  refine w138 (R := R) (Q := Q) hp0 ⟨p2, fun c1 => ⟨p0.1, p0.2.1, p1, fun B h1 => ?_⟩, fun c1 => ?_⟩
  · have sp0 : spS 3 n (R 5 / 2) = (0, R 5 / 2) := if_neg (by omega)
    have oS : okW (seR R 5 (2 * n)) := okW_v p0.1 (Or.inr (Or.inl ⟨rfl, by omega, by omega⟩))
    have rB : rW B 2 R := rW_fr p0.2.1 (fun q a b => h1.2.2 q (by omega) (by omega))
    have e4 : B 2 5 = R 5 := rB.2.2.2.1.2.1
    have rS : rW (gu B 2 5 (2 * n)) 2 (seR R 5 (2 * n)) := by
      obtain ⟨n1, n2, n3, n4, n5, n6, n7, n8⟩ := rB.2.2.2.1
      exact rW_n rB p0.1 (fun i hi => seR_ne (by omega)) ⟨n1, rfl, n3, n4, n5, n6, n7, n8⟩ (fun q hq => gu_row hq) rfl
    rw [e4]
    refine ⟨by omega, oS, rS, fun C h2 => ?_⟩
    have fC : ∀ q, ¬ (2 ≤ q ∧ q ≤ 16) → C q = B q := fun q a => (h2.2 q (by omega) (by omega) (by omega) (by omega)).trans (gu_row (by omega))
    refine ok C _ ⟨⟨fun _ => ⟨cK_ac p0 (okW_bo oS) h2.1 (eqS_se (by decide)) (fun q a b => (fC q (by omega)).trans (h1.2.2 q (by omega) (by omega))), hI_of h1.1 (fun q a => fC q (by omega)), ?_⟩, fun z => absurd (by rw [sp0]) z⟩, fun q a b c e => (fC q (by omega)).trans (h1.2.2 q c (by omega))⟩ sp0
    rw [fC 76 (by omega)]; exact h1.2.1
  · have sp1 : spS 3 n (R 5 / 2) = (1, 0) := if_pos (by omega)
    exact no1 A ⟨⟨fun z => absurd z (by rw [sp1]; decide), fun _ => rfl⟩, frJ_rf A⟩ sp1
theorem w136 {X : gv_X} {d : Nat} {G : gv_Sh} {A : Nat → Nat → Nat} {j : Nat → Nat → Int64} {cc : gv_Rs} {P : gv_O × gv_S → Prop} {c : Nat} {n : Nat} {R : Nat → Nat} {Q : Nat → Nat → Nat} (hp0 : oX11 G 0) (H : (c < 4294967296) ∧ (((c < 8) → (n < 4294967296) ∧ ((((0 ≤ n ∧ n ≤ 3)) → (okW R) ∧ ((rW A 2 R) ∧ ((hI A Q) ∧ ((∀ A1v3 : Nat → Nat → Nat, ((hI A1v3 (hcN R Q)) ∧ (A1v3 76 1 = min 12 (A 76 1 + 1)) ∧ (∀ q, q ≠ 76 → (q < 78 ∨ 257 < q) → A1v3 q = A q)) → ((c % 8) < 8) ∧ (((c % 8) < 8) ∧ (EvP X (d + 3) gvm_136 49 [some (.ref 0), some (.int (nI c)), some (.int (nI n)), some (.int (nI (A1v3 10 (c % 8))))] [] (G, (mI (gu A1v3 10 (c % 8) n), j), cc) P))))))) ∧ ((¬ (0 ≤ n ∧ n ≤ 3)) → P (.inr 0, gv_ex (G, (mI A, j), cc))))) ∧ ((¬ c < 8) → P (.inr 1, gv_ex (G, (mI A, j), cc))))) : EvP X (d + 3) gvm_136 0 (gv_enter [.ref 0, .int (nI c), .int (nI n)] 4) [] (G, (mI A, j), cc) P :=
  (pv_aload_n rfl rfl   (pv_iload_n rfl rfl   (Or.elim (Decidable.em (c < 8)) (fun c1 => pv_virt rfl rfl rfl rfl rfl (oX11_k hp0) rfl rfl rfl (c_needCell (c := c) (A := A) hp0 H.1 c1) (pv_aload_n rfl rfl   (pv_iload_n rfl rfl   (pn_iconst rfl rfl   (pn_iconst rfl rfl   (Or.elim (Decidable.em ((0 ≤ n ∧ n ≤ 3))) (fun c2 => pv_virt rfl rfl rfl rfl rfl (oX11_k hp0) rfl rfl rfl (c_needNumber (n := n) (lo := 0) (hi := 3) (A := A) hp0 (H.2.1 c1).1 (by decide) (by decide) c2) (pv_aload_n rfl rfl   (pv_getP rfl rfl (oX11_k hp0) (oX11_10 hp0)   (pv_aload_n rfl rfl   (pv_getP rfl rfl (oX11_k hp0) (oX11_3 hp0)   (match (c_remember (R := R) (Q := Q) (A := A) (X := X) (d := d + 0) (G := G) (j := j) (cc := cc) (oX11_10c hp0) (oX11_3c hp0) ((H.2.1 c1).2.1 c2).1 ((H.2.1 c1).2.1 c2).2.1 ((H.2.1 c1).2.1 c2).2.2.1 ) with | ⟨A1v3, e3x20, h3⟩ => pv_virt rfl rfl rfl rfl rfl (oX2_k (oX11_10c hp0)) rfl rfl rfl e3x20 (pv_aload_n rfl rfl   (pv_getP rfl rfl (oX11_k hp0) (oX11_3 hp0)   (pv_getP rfl rfl (oX10_k (oX11_3c hp0)) (oX10_3 (oX11_3c hp0))   (pv_iload_n rfl rfl   (pn_bipush rfl rfl   (pn_iandm 3 8 rfl rfl rfl   (pn_iald rfl (oX10_3c (oX11_3c hp0)) (by decide) (((H.2.1 c1).2.1 c2).2.2.2 A1v3 h3).1 rfl (pv_istore_n rfl rfl   (pv_aload_n rfl rfl   (pv_getP rfl rfl (oX11_k hp0) (oX11_3 hp0)   (pv_getP rfl rfl (oX10_k (oX11_3c hp0)) (oX10_3 (oX11_3c hp0))   (pv_iload_n rfl rfl   (pn_bipush rfl rfl   (pn_iandm 3 8 rfl rfl rfl   (pv_iload_n rfl rfl   (pn_iast rfl (oX10_3c (oX11_3c hp0)) (by decide) (((H.2.1 c1).2.1 c2).2.2.2 A1v3 h3).2.1  (((H.2.1 c1).2.1 c2).2.2.2 A1v3 h3).2.2)))))))))))))))))))))) (fun c2 => pv_virtT rfl rfl rfl rfl rfl (oX11_k hp0) rfl rfl rfl rfl (c_needNumber_x (n := n) (lo := 0) (hi := 3) (A := A) hp0 (H.2.1 c1).1 (by decide) (by decide) c2) ((H.2.1 c1).2.2 c2)))))))) (fun c1 => pv_virtT rfl rfl rfl rfl rfl (oX11_k hp0) rfl rfl rfl rfl (c_needCell_x (c := c) (A := A) hp0 H.1 c1) (H.2.2 c1)))))
theorem w136_49 {X : gv_X} {d : Nat} {G : gv_Sh} {A : Nat → Nat → Nat} {j : Nat → Nat → Int64} {cc : gv_Rs} {P : gv_O × gv_S → Prop} {c : Nat} {n : Nat} {l3 : Nat} {R : Nat → Nat} (hp0 : oX11 G 0) (H : (okW (seR R (22 + c) n)) ∧ ((rW A 2 (seR R (22 + c) n)) ∧ ((∀ A1v1 : Nat → Nat → Nat, ((rW A1v1 2 (boR (seR R (22 + c) n))) ∧ (∀ q, q ≠ 2 + 9 → q ≠ 2 + 10 → q ≠ 2 + 11 → q ≠ 2 + 12 → A1v1 q = A q)) → P (.inl (some (.int (nI l3))), (G, (mI A1v1, j), cc)))))) : EvP X (d + 3) gvm_136 49 [some (.ref 0), some (.int (nI c)), some (.int (nI n)), some (.int (nI l3))] [] (G, (mI A, j), cc) P :=
  (pv_aload_n rfl rfl   (pv_getP rfl rfl (oX11_k hp0) (oX11_3 hp0)   (match (c_startWorld (R := (seR R (22 + c) n)) (A := A) (X := X) (d := d + 1) (G := G) (j := j) (cc := cc) (oX11_3c hp0) H.1 H.2.1 ) with | ⟨A1v1, e1x53, h1⟩ => pv_virt rfl rfl rfl rfl rfl (oX10_k (oX11_3c hp0)) rfl rfl rfl e1x53 (pv_iload_n rfl rfl   (pv_ireti rfl rfl (H.2.2 A1v1 h1))))))
