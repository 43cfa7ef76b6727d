/-! the class: put -/
def spPu (R : Nat → Nat) (k p : Nat) : Nat × Nat := if min (R 3) 9 < k ∨ R 0 ≤ p then (1, 0) else (0, if k = R 3 then 4294967295 else R (12 + k))
theorem puN_bo (R : Nat → Nat) (k p : Nat) : puN R k p = boR (seR (seR R (12 + k) p) 3 (max (R 3) (k + 1))) := by
  have e : ∀ x, x ≠ 3 → (seR (seR R (12 + k) p) 3 (max (R 3) (k + 1))) x = seR R (12 + k) p x := fun x hx => seR_ne hx
  funext i
  unfold puN
  by_cases h3 : i = 3
  · subst h3
    rw [seR_at, boR_o (by omega), seR_at]
  · rw [seR_ne h3]
    show boN (seR R (12 + k) p) 128 i = boN (seR (seR R (12 + k) p) 3 (max (R 3) (k + 1))) 128 i
    unfold boN boV
    rw [e i h3, e _ (by omega)]
theorem okW_pu {R : Nat → Nat} (h : okW R) {k p : Nat} (hk : k < 10) (h3 : k ≤ R 3) (hp : p < R 0) : okW (seR (seR R (12 + k) p) 3 (max (R 3) (k + 1))) := by
  have n := okW_n h
  refine okW_3 (okW_v h (Or.inr (Or.inr (Or.inr (Or.inr (Or.inr (Or.inr ⟨by omega, by omega, hp⟩))))))) (by omega) (fun x hx => ?_)
  rw [seR_ne (show 0 ≠ 12 + k by omega)]
  by_cases z : x = k
  · rw [z, seR_at]; exact hp
  · rw [seR_ne (by omega)]; exact okW_pl h (by omega)
theorem rW_pu {A B : Nat → Nat → Nat} {R : Nat → Nat} {k p : Nat} (h : rW A 2 R) (o : okW R) (hk : k < 10) (h3 : k ≤ R 3) (f : ∀ q, q ≠ 2 → q ≠ 9 → B q = A q) (f2 : B 2 2 = max (R 3) (k + 1)) (f3 : ∀ x, x ≠ 2 → B 2 x = A 2 x) (f4 : ∀ x, B 9 x = if x = k then p else A 9 x) : rW B 2 (seR (seR R (12 + k) p) 3 (max (R 3) (k + 1))) := by
  have m := okW_n o
  have g : ∀ i, i ≠ 3 → (i < 12 ∨ 22 ≤ i) → (seR (seR R (12 + k) p) 3 (max (R 3) (k + 1))) i = R i := fun i a b => (seR_ne a).trans (seR_ne (by omega))
  obtain ⟨a1, a2, a3, a4, a5, a6, a7⟩ := h
  refine ⟨rO_X (rO_fr a1 (fun a x y => f a (by omega) (by omega))) o (fun i hi => g i (by omega) (by omega)), ⟨by rw [seR_at]; exact f2, fun x hx => ?_⟩, fun x hx => ?_, ?_, rC_R (rC_of a5 (f _ (by omega) (by omega)) (f _ (by omega) (by omega))) (fun i hi => g _ (by omega) (by omega)), rC_R (rC_of a6 (f _ (by omega) (by omega)) (f _ (by omega) (by omega))) (fun i hi => g _ (by omega) (by omega)), rL_R (rL_of a7 (f _ (by omega) (by omega)) (f _ (by omega) (by omega))) m.2.2.2.2.2.2.2.2.2.2.2.1 (fun i hi => g i (by omega) (by omega))⟩
  · rw [seR_at] at hx
    refine (f4 x).trans ?_
    rw [seR_ne (show 12 + x ≠ 3 by omega)]
    by_cases z : x = k
    · rw [if_pos z, z, seR_at]
    · rw [if_neg z, seR_ne (by omega)]; exact a2.2 x (by omega)
  · rw [f _ (by omega) (by omega), g _ (by omega) (by omega)]; exact a3 x hx
  · unfold rN
    rw [f3 4 (by omega), f3 5 (by omega), f3 6 (by omega), f3 7 (by omega), f3 8 (by omega), f3 9 (by omega), f3 10 (by omega), f3 11 (by omega), g 4 (by omega) (by omega), g 5 (by omega) (by omega), g 6 (by omega) (by omega), g 7 (by omega) (by omega), g 8 (by omega) (by omega), g 9 (by omega) (by omega), g 11 (by omega) (by omega), g 1 (by omega) (by omega)]
    exact a4
theorem w135 {X : gv_X} {d : Nat} {G : gv_Sh} {A : Nat → Nat → Nat} {j : Nat → Nat → Int64} {cc : gv_Rs} {P : gv_O × gv_S → Prop} {k : Nat} {p : Nat} {R : Nat → Nat} {Q : Nat → Nat → Nat} (hp0 : oX11 G 0) (H : (k < 4294967296) ∧ (((2147483648 ≤ k) → P (.inr 1, gv_ex (G, (mI A, j), cc))) ∧ ((k < 2147483648) → (k < 2147483648) ∧ (((A 2 2) < 2147483648) ∧ ((((A 2 2) < k) → P (.inr 1, gv_ex (G, (mI A, j), cc))) ∧ ((k ≤ (A 2 2)) → (k < 2147483648) ∧ (((k < 10) → (p < 4294967296) ∧ ((A 3 0 ≤ 8) ∧ (((p < A 3 0) → (okW R) ∧ ((rW A 2 R) ∧ ((hI A Q) ∧ ((∀ A1v2 : Nat → Nat → Nat, ((hI A1v2 (hcN R Q)) ∧ (A1v2 76 1 = min 12 (A 76 1 + 1)) ∧ (∀ q, q ≠ 76 → (q < 78 ∨ 257 < q) → A1v2 q = A q)) → (k < 4294967296) ∧ ((A1v2 2 2 ≤ 10) ∧ ((k < 10) ∧ (((A1v2 2 2) < 2147483648) ∧ (((k + 1) < 2147483648) ∧ (EvP X (d + 3) gvm_135 87 [some (.ref 0), some (.int (nI k)), some (.int (nI p)), some (.int (nI (if k < A1v2 2 2 then A1v2 (2 + 7) k else 4294967295)))] [] (G, (mI (gu (gu A1v2 9 k p) 2 2 (max (A1v2 2 2) (k + 1))), j), cc) P)))))))))) ∧ ((¬ p < A 3 0) → P (.inr 1, gv_ex (G, (mI A, j), cc)))))) ∧ ((10 ≤ k) → P (.inr 1, gv_ex (G, (mI A, j), cc)))))))))) : EvP X (d + 3) gvm_135 0 (gv_enter [.ref 0, .int (nI k), .int (nI p)] 4) [] (G, (mI A, j), cc) P :=
  (pv_iload_n rfl rfl   (pn_if_lt rfl H.1 (fun c1 => (pv_throw rfl rfl rfl (H.2.1 c1))) (fun c1 => (pv_iload_n rfl rfl   (pv_aload_n rfl rfl   (pv_getP rfl rfl (oX11_k hp0) (oX11_3 hp0)   (pn_getI rfl rfl (oX10_k (oX11_3c hp0)) rfl   (pn_ic_gt rfl (H.2.2 c1).1 (H.2.2 c1).2.1 (fun c2 => (pv_throw rfl rfl rfl ((H.2.2 c1).2.2.1 c2))) (fun c2 => (pv_iload_n rfl rfl   (pn_bipush rfl rfl   (pn_ic_lt rfl ((H.2.2 c1).2.2.2 c2).1 (by decide) (fun c3 => (pv_aload_n rfl rfl   (pv_iload_n rfl rfl   (Or.elim (Decidable.em (p < A 3 0)) (fun c4 => pv_virt rfl rfl rfl rfl rfl (oX11_k hp0) rfl rfl rfl (c_needOp (p := p) (A := A) hp0 (((H.2.2 c1).2.2.2 c2).2.1 c3).1 (((H.2.2 c1).2.2.2 c2).2.1 c3).2.1 c4) (pv_aload_n rfl rfl   (pv_getP rfl rfl (oX11_k hp0) (oX11_10 hp0)   (pv_aload_n rfl rfl   (pv_getP rfl rfl (oX11_k hp0) (oX11_3 hp0)   (match (c_remember (R := R) (Q := Q) (A := A) (X := X) (d := d + 0) (G := G) (j := j) (cc := cc) (oX11_10c hp0) (oX11_3c hp0) ((((H.2.2 c1).2.2.2 c2).2.1 c3).2.2.1 c4).1 ((((H.2.2 c1).2.2.2 c2).2.1 c3).2.2.1 c4).2.1 ((((H.2.2 c1).2.2.2 c2).2.1 c3).2.2.1 c4).2.2.1 ) with | ⟨A1v2, e4x45, h5⟩ => pv_virt rfl rfl rfl rfl rfl (oX2_k (oX11_10c hp0)) rfl rfl rfl e4x45 (pv_aload_n rfl rfl   (pv_getP rfl rfl (oX11_k hp0) (oX11_3 hp0)   (pv_iload_n rfl rfl   (pv_virt rfl rfl rfl rfl rfl (oX10_k (oX11_3c hp0)) rfl rfl rfl (c_opAt (c := k) (A := A1v2) (oX11_3c hp0) (((((H.2.2 c1).2.2.2 c2).2.1 c3).2.2.1 c4).2.2.2 A1v2 h5).1 (((((H.2.2 c1).2.2.2 c2).2.1 c3).2.2.1 c4).2.2.2 A1v2 h5).2.1 ) (pv_istore_n rfl rfl   (pv_aload_n rfl rfl   (pv_getP rfl rfl (oX11_k hp0) (oX11_3 hp0)   (pv_getP rfl rfl (oX10_k (oX11_3c hp0)) (oX10_1 (oX11_3c hp0))   (pv_iload_n rfl rfl   (pv_iload_n rfl rfl   (pn_iast rfl (oX10_1c (oX11_3c hp0)) (by decide) (((((H.2.2 c1).2.2.2 c2).2.1 c3).2.2.1 c4).2.2.2 A1v2 h5).2.2.1  (pv_aload_n rfl rfl   (pv_getP rfl rfl (oX11_k hp0) (oX11_3 hp0)   (pv_aload_n rfl rfl   (pv_getP rfl rfl (oX11_k hp0) (oX11_3 hp0)   (pn_getI rfl rfl (oX10_k (oX11_3c hp0)) (gu_q (by omega) rfl)   (pv_iload_n rfl rfl   (pn_iconst rfl rfl   (pn_iadd rfl   (pv_stat rfl rfl rfl rfl rfl rfl rfl rfl (k_max (a := (A1v2 2 2)) (b := (k + 1)) (A := (gu A1v2 9 k p)) (((((H.2.2 c1).2.2.2 c2).2.1 c3).2.2.1 c4).2.2.2 A1v2 h5).2.2.2.1 (((((H.2.2 c1).2.2.2 c2).2.1 c3).2.2.1 c4).2.2.2 A1v2 h5).2.2.2.2.1 ) (pn_putI rfl rfl (oX10_k (oX11_3c hp0))   (((((H.2.2 c1).2.2.2 c2).2.1 c3).2.2.1 c4).2.2.2 A1v2 h5).2.2.2.2.2))))))))))))))))))))))))))) (fun c4 => pv_virtT rfl rfl rfl rfl rfl (oX11_k hp0) rfl rfl rfl rfl (c_needOp_x (p := p) (A := A) hp0 (((H.2.2 c1).2.2.2 c2).2.1 c3).1 (((H.2.2 c1).2.2.2 c2).2.1 c3).2.1 c4) ((((H.2.2 c1).2.2.2 c2).2.1 c3).2.2.2 c4)))))) (fun c3 => (pv_throw rfl rfl rfl (((H.2.2 c1).2.2.2 c2).2.2 c3)))))))))))))))
theorem w135_87 {X : gv_X} {d : Nat} {G : gv_Sh} {A : Nat → Nat → Nat} {j : Nat → Nat → Int64} {cc : gv_Rs} {P : gv_O × gv_S → Prop} {k : Nat} {p : Nat} {l3 : Nat} {U : Nat → Nat} (hp0 : oX11 G 0) (H : (okW U) ∧ ((rW A 2 U) ∧ ((∀ A1v1 : Nat → Nat → Nat, ((rW A1v1 2 (boR U)) ∧ (∀ q, q ≠ 2 + 9 → q ≠ 2 + 10 → q ≠ 2 + 11 → q ≠ 2 + 12 → A1v1 q = A q)) → P (.inl (some (.int (nI l3))), (G, (mI A1v1, j), cc)))))) : EvP X (d + 3) gvm_135 87 [some (.ref 0), some (.int (nI k)), some (.int (nI p)), some (.int (nI l3))] [] (G, (mI A, j), cc) P :=
  (pv_aload_n rfl rfl   (pv_getP rfl rfl (oX11_k hp0) (oX11_3 hp0)   (match (c_startWorld (R := U) (A := A) (X := X) (d := d + 1) (G := G) (j := j) (cc := cc) (oX11_3c hp0) H.1 H.2.1 ) with | ⟨A1v1, e1x91, h1⟩ => pv_virt rfl rfl rfl rfl rfl (oX10_k (oX11_3c hp0)) rfl rfl rfl e1x91 (pv_iload_n rfl rfl   (pv_ireti rfl rfl (H.2.2 A1v1 h1))))))
theorem c_put_p {X : gv_X} {d : Nat} {G : gv_Sh} {A : Nat → Nat → Nat} {j : Nat → Nat → Int64} {cc : gv_Rs} {P : gv_O × gv_S → Prop} {k : Nat} {p : Nat} {R : Nat → Nat} {Q : Nat → Nat → Nat} (hp0 : oX11 G 0) (p0 : cK A R) (p1 : hI A Q) (p2 : k < 4294967296) (p3 : p < 4294967296) (hP : ∀ A1 : Nat → Nat → Nat, (acT (spPu R k p).1 A A1 R (puN R k p) Q) ∧ (frJ A A1) → P (oc (fun _ => 1) (spPu R k p).1 (spPu R k p).2 (G, (mI A1, j), cc))) : EvP X (d + 3) gvm_135 0 (gv_enter [.ref 0, .int (nI k), .int (nI p)] 4) [] (G, (mI A, j), cc) P := by
  have ok : ∀ B x, acT (spPu R k p).1 A B R (puN R k p) Q ∧ frJ A B → spPu R k p = (0, x) → P (.inl (some (.int (nI x))), (G, (mI B, j), cc)) := fun B x h1 h3 => by
    have := hP B h1
    rw [h3] at this
    exact this
  have no1 : ∀ B, acT (spPu R k p).1 A B R (puN R k p) Q ∧ frJ A B → spPu R k p = (1, 0) → P (.inr 1, gv_ex (G, (mI B, j), cc)) := fun B h1 h3 => by
    have := hP B h1
    rw [h3] at this
    exact this
  have n := okW_n p0.1
  have ro : rO A 3 R := p0.2.1.1
  have e0 : A 3 0 = R 0 := ro.1
  have e2 : A 2 2 = R 3 := p0.2.1.2.1.1
  have sp1 : min (R 3) 9 < k ∨ R 0 ≤ p → spPu R k p = (1, 0) := fun z => if_pos z
  refine w135 (R := R) (Q := Q) hp0 ⟨p2, fun c1 => no1 A ⟨⟨fun z => absurd z (by rw [sp1 (by omega)]; decide), fun _ => rfl⟩, frJ_rf A⟩ (sp1 (by omega)), fun c1 => ⟨c1, by omega, fun c2 => no1 A ⟨⟨fun z => absurd z (by rw [sp1 (by omega)]; decide), fun _ => rfl⟩, frJ_rf A⟩ (sp1 (by omega)), fun c2 => ⟨c1, fun c3 => ⟨p3, rO_n ro p0.1, fun c4 => ⟨p0.1, p0.2.1, p1, fun B h1 => ?_⟩, fun c4 => no1 A ⟨⟨fun z => absurd z (by rw [sp1 (by omega)]; decide), fun _ => rfl⟩, frJ_rf A⟩ (sp1 (by omega))⟩, fun c3 => no1 A ⟨⟨fun z => absurd z (by rw [sp1 (by omega)]; decide), fun _ => rfl⟩, frJ_rf A⟩ (sp1 (by omega))⟩⟩⟩
  have sp0 : spPu R k p = (0, if k = R 3 then 4294967295 else R (12 + k)) := if_neg (by omega)
  have rB : rW B 2 R := rW_fr p0.2.1 (fun q a b => h1.2.2 q (by omega) (by omega))
  have b2 : B 2 2 = R 3 := rB.2.1.1
  have oS : okW (seR (seR R (12 + k) p) 3 (max (R 3) (k + 1))) := okW_pu p0.1 c3 (by omega) (by omega)
  rw [b2]
  refine ⟨p2, by omega, c3, by omega, by omega, w135_87 (U := (seR (seR R (12 + k) p) 3 (max (R 3) (k + 1)))) hp0 ⟨oS, rW_pu rB p0.1 c3 (by omega) (fun q a b => ?_) (gu_hit _ _ _ _) (fun x hx => ?_) (fun x => ?_), fun C h2 => ?_⟩⟩
  · rw [gu_row a, gu_row b]
  · rw [gu_k hx rfl, gu_row (by decide)]
  · rw [gu_row (by decide)]
    by_cases z : x = k
    · rw [z, gu_hit, if_pos rfl]
    · rw [gu_k z rfl, if_neg z]
  · have fC : ∀ q, ¬ (2 ≤ q ∧ q ≤ 16) → C q = B q := fun q a => by rw [h2.2 q (by omega) (by omega) (by omega) (by omega), gu_row (by omega), gu_row (by omega)]
    have ev : (if k < R 3 then B (2 + 7) k else 4294967295) = (if k = R 3 then 4294967295 else R (12 + k)) := by
      by_cases z : k = R 3
      · rw [if_pos z, if_neg (by omega)]
      · rw [if_neg z, if_pos (by omega)]; exact rB.2.1.2 k (by omega)
    rw [ev]
    refine ok C _ ⟨⟨fun _ => ⟨?_, hI_of h1.1 (fun q a => fC q (by omega)), by rw [fC 76 (by omega)]; exact h1.2.1⟩, fun z => absurd (by rw [sp0]) z⟩, fun q a b c e => (fC q (by omega)).trans (h1.2.2 q c (by omega))⟩ sp0
    rw [puN_bo]
    exact cK_ac p0 (okW_bo oS) h2.1 (fun i hi => (eqG_bo _ i (by omega)).trans ((seR_ne (by omega)).trans (seR_ne (by omega)))) (fun q a b => (fC q (by omega)).trans (h1.2.2 q (by omega) (by omega)))
