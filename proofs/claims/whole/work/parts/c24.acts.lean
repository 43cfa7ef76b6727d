/-! the class: patch, guard, undo -/
def spFl (R : Nat → Nat) (p f : Nat) (b : Bool) : Nat × Bool := if R 0 ≤ p then (1, false) else (0, !decide (R (30 + 9 * p + f) = b.toNat))
theorem okW_fl {R : Nat → Nat} (h : okW R) {p f v : Nat} (hp : p < 8) (hf : f = 1 ∨ f = 2) (hv : v ≤ 1) : okW (seR R (30 + 9 * p + f) v) := by
  have g : ∀ i, i < 30 ∨ 102 ≤ i → seR R (30 + 9 * p + f) v i = R i := fun i a => seR_ne (by omega)
  have n := okW_n h
  refine ⟨?_, fun k hk => ?_, fun k hk => ?_, fun k hk => ?_, fun q hq => ?_, fun q hq => ?_, fun q hq => ?_, fun k hk => ?_⟩
  · rw [g 0 (by omega), g 1 (by omega), g 2 (by omega), g 3 (by omega), g 4 (by omega), g 5 (by omega), g 6 (by omega), g 7 (by omega), g 8 (by omega), g 9 (by omega), g 10 (by omega), g 11 (by omega)]; exact n
  · rw [g _ (by omega)]; exact okW_p h hk
  · rw [g 3 (by omega)] at hk; rw [g 0 (by omega), g _ (by omega)]; exact okW_pl h hk
  · rw [g _ (by omega)]; exact h.2.2.2.1 k hk
  · have o := h.2.2.2.2.1 q hq
    refine ⟨?_, ?_, ?_, fun k hk => ⟨?_, ?_⟩⟩
    · show seR R (30 + 9 * p + f) v (30 + 9 * q + 0) ≤ 3
      rw [seR_ne (by omega)]; exact o.1
    · show seR R (30 + 9 * p + f) v (30 + 9 * q + 1) ≤ 1
      by_cases z : 30 + 9 * q + 1 = 30 + 9 * p + f
      · rw [z, seR_at]; exact hv
      · rw [seR_ne z]; exact o.2.1
    · show seR R (30 + 9 * p + f) v (30 + 9 * q + 2) ≤ 1
      by_cases z : 30 + 9 * q + 2 = 30 + 9 * p + f
      · rw [z, seR_at]; exact hv
      · rw [seR_ne z]; exact o.2.2.1
    · show seR R (30 + 9 * p + f) v (30 + 9 * q + (3 + 2 * k)) ≤ 10
      rw [seR_ne (by omega)]; exact (o.2.2.2 k hk).1
    · show seR R (30 + 9 * p + f) v (30 + 9 * q + (3 + 2 * k + 1)) ≤ 7
      rw [seR_ne (by omega)]; exact (o.2.2.2 k hk).2
  · rw [g 0 (by omega)] at hq
    rw [seR_ne (by omega)]; exact okW_1 h hq
  · have e : (fun i => seR R (30 + 9 * p + f) v (102 + 13 * q + i)) = (fun i => R (102 + 13 * q + i)) := funext fun i => g _ (by omega)
    rw [e]; exact h.2.2.2.2.2.2.1 q hq
  · rw [g _ (by omega)]; exact okW_l h hk
theorem rW_fl {A B : Nat → Nat → Nat} {R : Nat → Nat} {p f v : Nat} (h : rW A 2 R) (o : okW R) (hp : p < R 0) (hf : f = 1 ∨ f = 2) (e : ∀ q, q ≠ 6 + f → B q = A q) (h2 : ∀ k, B (6 + f) k = if k = p then v else A (6 + f) k) : rW B 2 (seR R (30 + 9 * p + f) v) := by
  have m := okW_n o
  have g : ∀ i, i < 30 ∨ 102 ≤ i → seR R (30 + 9 * p + f) v i = R i := fun i a => seR_ne (by omega)
  obtain ⟨⟨r1, r2, r3⟩, a2, a3, a4, a5, a6, a7⟩ := h
  refine ⟨⟨by rw [e _ (by omega), g 0 (by omega)]; exact r1, fun q hq => ?_, fun z hz => by rw [e _ (by omega), e _ (by omega)]; exact r3 z hz⟩, rP_R (rP_of a2 (by rw [e 2 (by omega)]) (e _ (by omega))) m.2.2.2.1 (fun i hi => g i (by omega)), fun k hk => ?_, ?_, rC_R (rC_of a5 (e _ (by omega)) (e _ (by omega))) (fun i hi => g _ (by omega)), rC_R (rC_of a6 (e _ (by omega)) (e _ (by omega))) (fun i hi => g _ (by omega)), rL_R (rL_of a7 (e _ (by omega)) (e _ (by omega))) m.2.2.2.2.2.2.2.2.2.2.2.1 (fun i hi => g i (by omega))⟩
  · rw [g 0 (by omega)] at hq
    obtain ⟨x1, x2, x3, x4⟩ := r2 q hq
    have o3 := (okW_o o (p := q) (by omega)).1
    refine ⟨by rw [e _ (by omega), seR_ne (by omega)]; exact x1, ?_, ?_, fun k hk => ?_⟩
    · rcases hf with rfl | rfl
      · refine (h2 q).trans ?_
        by_cases z : q = p
        · rw [if_pos z, z, seR_at]
        · rw [if_neg z, seR_ne (by omega)]; exact x2
      · rw [e _ (by omega), seR_ne (by omega)]; exact x2
    · rcases hf with rfl | rfl
      · rw [e _ (by omega), seR_ne (by omega)]; exact x3
      · refine (h2 q).trans ?_
        by_cases z : q = p
        · rw [if_pos z, z, seR_at]
        · rw [if_neg z, seR_ne (by omega)]; exact x3
    · rw [seR_ne (by omega)] at hk
      rw [e _ (by omega), e _ (by omega), seR_ne (by omega), seR_ne (by omega)]; exact x4 k hk
  · rw [e _ (by omega), g _ (by omega)]; exact a3 k hk
  · unfold rN
    rw [e 2 (by omega), g 4 (by omega), g 5 (by omega), g 6 (by omega), g 7 (by omega), g 8 (by omega), g 9 (by omega), g 11 (by omega), g 1 (by omega)]
    exact a4
theorem eqV_fl {R : Nat → Nat} {p f v : Nat} (hf : f = 1 ∨ f = 2) : eqV R (boR (seR R (30 + 9 * p + f) v)) := fun i hi => (eqG_bo _ i (by omega)).trans (seR_ne (by omega))
theorem v134 {X : gv_X} {d : Nat} {G : gv_Sh} {A : Nat → Nat → Nat} {j : Nat → Nat → Int64} {cc : gv_Rs} {P : gv_O × gv_S → Prop} {p : Nat} {b : Bool} (hp0 : oX11 G 0) (hp8 : G.2.1 8 = (100, 8)) (H : (p < 4294967296) ∧ (((2147483648 ≤ p) → EvP X (d + 2) gvm_134 48 [some (.ref 0), some (.ref 8), some (.int (nI p)), some (.int (zo b)), some (.int (nI 0))] [] (G, (mI A, j), cc) P) ∧ ((p < 2147483648) → (p < 2147483648) ∧ (((8 ≤ p) → EvP X (d + 2) gvm_134 48 [some (.ref 0), some (.ref 8), some (.int (nI p)), some (.int (zo b)), some (.int (nI 0))] [] (G, (mI A, j), cc) P) ∧ ((p < 8) → (p < 8) ∧ (((A 8 p) < 4294967296) ∧ (((¬ (A 8 p) = 1) → (((nI 0) = (zo b)) → ((b = false) → (p < 8) ∧ (EvP X (d + 2) gvm_134 48 [some (.ref 0), some (.ref 8), some (.int (nI p)), some (.int (zo b)), some (.int (nI 0))] [] (G, (mI (gu A 8 p 0), j), cc) P)) ∧ ((b = true) → (p < 8) ∧ (EvP X (d + 2) gvm_134 48 [some (.ref 0), some (.ref 8), some (.int (nI p)), some (.int (zo b)), some (.int (nI 0))] [] (G, (mI (gu A 8 p 1), j), cc) P))) ∧ ((¬ (nI 0) = (zo b)) → ((b = false) → (p < 8) ∧ (EvP X (d + 2) gvm_134 48 [some (.ref 0), some (.ref 8), some (.int (nI p)), some (.int (zo b)), some (.int (nI 1))] [] (G, (mI (gu A 8 p 0), j), cc) P)) ∧ ((b = true) → (p < 8) ∧ (EvP X (d + 2) gvm_134 48 [some (.ref 0), some (.ref 8), some (.int (nI p)), some (.int (zo b)), some (.int (nI 1))] [] (G, (mI (gu A 8 p 1), j), cc) P)))) ∧ (((A 8 p) = 1) → (((nI 1) = (zo b)) → ((b = false) → (p < 8) ∧ (EvP X (d + 2) gvm_134 48 [some (.ref 0), some (.ref 8), some (.int (nI p)), some (.int (zo b)), some (.int (nI 0))] [] (G, (mI (gu A 8 p 0), j), cc) P)) ∧ ((b = true) → (p < 8) ∧ (EvP X (d + 2) gvm_134 48 [some (.ref 0), some (.ref 8), some (.int (nI p)), some (.int (zo b)), some (.int (nI 0))] [] (G, (mI (gu A 8 p 1), j), cc) P))) ∧ ((¬ (nI 1) = (zo b)) → ((b = false) → (p < 8) ∧ (EvP X (d + 2) gvm_134 48 [some (.ref 0), some (.ref 8), some (.int (nI p)), some (.int (zo b)), some (.int (nI 1))] [] (G, (mI (gu A 8 p 0), j), cc) P)) ∧ ((b = true) → (p < 8) ∧ (EvP X (d + 2) gvm_134 48 [some (.ref 0), some (.ref 8), some (.int (nI p)), some (.int (zo b)), some (.int (nI 1))] [] (G, (mI (gu A 8 p 1), j), cc) P))))))))))) : EvP X (d + 2) gvm_134 0 (gv_enter [.ref 0, .ref 8, .int (nI p), .int (zo b)] 5) [] (G, (mI A, j), cc) P :=
  (pn_iconst rfl rfl   (pv_istore rfl rfl   (pv_iload_n rfl rfl   (pn_if_lt rfl H.1 (fun c1 => (H.2.1 c1)) (fun c1 => (pv_iload_n rfl rfl   (pv_aload_n rfl rfl   (pv_alen rfl hp8   (pn_ic_ge rfl (H.2.2 c1).1 (by decide) (fun c2 => ((H.2.2 c1).2.1 c2)) (fun c2 => (pv_aload_n rfl rfl   (pv_iload_n rfl rfl   (pn_iald rfl hp8 (by decide) ((H.2.2 c1).2.2 c2).1 rfl (pn_iconst rfl rfl   (pn_ic_ne rfl ((H.2.2 c1).2.2 c2).2.1 (by decide) (fun c3 => (pn_iconst rfl rfl   (pv_iload_n rfl rfl   (pv_ic_eq rfl  (fun c4 => (pn_iconst rfl rfl   (pv_istore rfl rfl   (pv_aload_n rfl rfl   (pv_iload_n rfl rfl   (pv_iload_n rfl rfl   (pv_if_eq_zo rfl  (fun c5 => (pn_iconst rfl rfl   (pn_iast rfl hp8 (by decide) (((((H.2.2 c1).2.2 c2).2.2.1 c3).1 c4).1 c5).1  (((((H.2.2 c1).2.2 c2).2.2.1 c3).1 c4).1 c5).2))) (fun c5 => (pn_iconst rfl rfl   (pv_goto rfl (pn_iast rfl hp8 (by decide) (((((H.2.2 c1).2.2 c2).2.2.1 c3).1 c4).2 c5).1  (((((H.2.2 c1).2.2 c2).2.2.1 c3).1 c4).2 c5).2))))))))))) (fun c4 => (pn_iconst rfl rfl   (pv_goto rfl (pv_istore rfl rfl   (pv_aload_n rfl rfl   (pv_iload_n rfl rfl   (pv_iload_n rfl rfl   (pv_if_eq_zo rfl  (fun c6 => (pn_iconst rfl rfl   (pn_iast rfl hp8 (by decide) (((((H.2.2 c1).2.2 c2).2.2.1 c3).2 c4).1 c6).1  (((((H.2.2 c1).2.2 c2).2.2.1 c3).2 c4).1 c6).2))) (fun c6 => (pn_iconst rfl rfl   (pv_goto rfl (pn_iast rfl hp8 (by decide) (((((H.2.2 c1).2.2 c2).2.2.1 c3).2 c4).2 c6).1  (((((H.2.2 c1).2.2 c2).2.2.1 c3).2 c4).2 c6).2)))))))))))))))) (fun c3 => (pn_iconst rfl rfl   (pv_goto rfl (pv_iload_n rfl rfl   (pv_ic_eq rfl  (fun c7 => (pn_iconst rfl rfl   (pv_istore rfl rfl   (pv_aload_n rfl rfl   (pv_iload_n rfl rfl   (pv_iload_n rfl rfl   (pv_if_eq_zo rfl  (fun c8 => (pn_iconst rfl rfl   (pn_iast rfl hp8 (by decide) (((((H.2.2 c1).2.2 c2).2.2.2 c3).1 c7).1 c8).1  (((((H.2.2 c1).2.2 c2).2.2.2 c3).1 c7).1 c8).2))) (fun c8 => (pn_iconst rfl rfl   (pv_goto rfl (pn_iast rfl hp8 (by decide) (((((H.2.2 c1).2.2 c2).2.2.2 c3).1 c7).2 c8).1  (((((H.2.2 c1).2.2 c2).2.2.2 c3).1 c7).2 c8).2))))))))))) (fun c7 => (pn_iconst rfl rfl   (pv_goto rfl (pv_istore rfl rfl   (pv_aload_n rfl rfl   (pv_iload_n rfl rfl   (pv_iload_n rfl rfl   (pv_if_eq_zo rfl  (fun c9 => (pn_iconst rfl rfl   (pn_iast rfl hp8 (by decide) (((((H.2.2 c1).2.2 c2).2.2.2 c3).2 c7).1 c9).1  (((((H.2.2 c1).2.2 c2).2.2.2 c3).2 c7).1 c9).2))) (fun c9 => (pn_iconst rfl rfl   (pv_goto rfl (pn_iast rfl hp8 (by decide) (((((H.2.2 c1).2.2 c2).2.2.2 c3).2 c7).2 c9).1  (((((H.2.2 c1).2.2 c2).2.2.2 c3).2 c7).2 c9).2))))))))))))))))))))))))))))))))
theorem v134_48 {X : gv_X} {d : Nat} {G : gv_Sh} {A : Nat → Nat → Nat} {j : Nat → Nat → Int64} {cc : gv_Rs} {P : gv_O × gv_S → Prop} {p : Nat} {b : Bool} {l4 : Nat} {U : Nat → Nat} (hp0 : oX11 G 0) (hp8 : G.2.1 8 = (100, 8)) (H : (∀ A1v1 : Nat → Nat → Nat, ((∀ k, k < 264 → A1v1 61 k = 4294967294) ∧ (∀ a, a ≠ 61 → A1v1 a = A a)) → (okW U) ∧ ((rW A1v1 2 U) ∧ ((∀ A1v2 : Nat → Nat → Nat, ((rW A1v2 2 (boR U)) ∧ (∀ q, q ≠ 2 + 9 → q ≠ 2 + 10 → q ≠ 2 + 11 → q ≠ 2 + 12 → A1v2 q = A1v1 q)) → ((nI l4) = 0 ∨ (nI l4) = 1) ∧ P (.inl (some (.int (nI l4))), (G, (mI A1v2, j), cc))))))) : EvP X (d + 2) gvm_134 48 [some (.ref 0), some (.ref 8), some (.int (nI p)), some (.int (zo b)), some (.int (nI l4))] [] (G, (mI A, j), cc) P :=
  (pv_aload_n rfl rfl   (pv_getP rfl rfl (oX11_k hp0) (oX11_7 hp0)   (match (c_forgetSums (A := A) (X := X) (d := d + 0) (G := G) (j := j) (cc := cc) (oX11_7c hp0) ) with | ⟨A1v1, e2x52, h1⟩ => pv_virt rfl rfl rfl rfl rfl (oX4_k (oX11_7c hp0)) rfl rfl rfl e2x52 (pv_aload_n rfl rfl   (pv_getP rfl rfl (oX11_k hp0) (oX11_3 hp0)   (match (c_startWorld (R := U) (A := A1v1) (X := X) (d := d + 0) (G := G) (j := j) (cc := cc) (oX11_3c hp0) (H A1v1 h1).1 (H A1v1 h1).2.1 ) with | ⟨A1v2, e2x59, h2⟩ => pv_virt rfl rfl rfl rfl rfl (oX10_k (oX11_3c hp0)) rfl rfl rfl e2x59 (pv_iload rfl rfl   (pv_iretz rfl rfl ((H A1v1 h1).2.2 A1v2 h2).1 ((H A1v1 h1).2.2 A1v2 h2).2))))))))
theorem c_setPatched_p {X : gv_X} {d : Nat} {G : gv_Sh} {A : Nat → Nat → Nat} {j : Nat → Nat → Int64} {cc : gv_Rs} {P : gv_O × gv_S → Prop} {p : Nat} {b : Bool} {R : Nat → Nat} (hp0 : oX11 G 0) (hp8 : G.2.1 8 = (100, 8)) (p0 : cK A R) (p1 : p < R 0) (hP : ∀ A1 : Nat → Nat → Nat, (cK A1 (boR (seR R (30 + 9 * p + 2) (Bool.toNat b)))) ∧ (∀ q, ¬ (2 ≤ q ∧ q ≤ 16) → q ≠ 61 → A1 q = A q) → P (.inl (some (.int (zo (!decide (R (30 + 9 * p + 2) = Bool.toNat b))))), (G, (mI A1, j), cc))) : EvP X (d + 2) gvm_134 0 (gv_enter [.ref 0, .ref 8, .int (nI p), .int (zo b)] 5) [] (G, (mI A, j), cc) P := by
  have n := okW_n p0.1
  have ea : A 8 p = R (30 + 9 * p + 2) := by
    obtain ⟨x1, x2, x3, x4⟩ := p0.2.1.1.2.1 p p1
    exact x3
  have oo := okW_o p0.1 (p := p) (by omega)
  have bl : b.toNat ≤ 1 := Bool.toNat_le b
  have oS : okW (seR R (30 + 9 * p + 2) b.toNat) := okW_fl p0.1 (by omega) (by omega) bl
  have Fi : ∀ v l4, v = b.toNat → l4 = (!decide (R (30 + 9 * p + 2) = b.toNat)).toNat → EvP X (d + 2) gvm_134 48 [some (.ref 0), some (.ref 8), some (.int (nI p)), some (.int (zo b)), some (.int (nI l4))] [] (G, (mI (gu A 8 p v), j), cc) P := by
    intro v l4 hv hl
    have rS : rW (gu A 8 p v) 2 (seR R (30 + 9 * p + 2) b.toNat) := rW_fl p0.2.1 p0.1 p1 (by omega) (fun q hq => gu_row hq) (fun k => by
      by_cases z : k = p
      · rw [z, if_pos rfl, ← hv]; exact gu_hit _ _ _ _
      · rw [if_neg z]; exact gu_k z rfl)
    refine v134_48 (U := (seR R (30 + 9 * p + 2) b.toNat)) hp0 hp8 (fun B h1 => ⟨oS, rW_fr rS (fun q a b => h1.2 q (by omega)), fun C h2 => ?_⟩)
    have fC : ∀ q, ¬ (2 ≤ q ∧ q ≤ 16) → C q = B q := fun q a => h2.2 q (by omega) (by omega) (by omega) (by omega)
    have fA : ∀ q, ¬ (2 ≤ q ∧ q ≤ 16) → q ≠ 61 → C q = A q := fun q a b => by rw [fC q a, h1.2 q b]; exact gu_row (by omega)
    have eV : eqV R (boR (seR R (30 + 9 * p + 2) b.toNat)) := eqV_fl (by omega)
    rw [hl]
    exact ⟨nb01 _, qb (hP C ⟨⟨okW_bo oS, h2.1, knI_of (knI_V p0.1 p0.2.2.1 eV) (fA 55 (by omega) (by omega)), okLw_of p0.2.2.2.1 (eV 2 (by omega)) (fun i hi => (eqG_bo _ i (by omega)).trans (seR_ne (by omega))), rRu_of (rRu_R p0.2.2.2.2.1 (fun i hi => (eqG_bo _ i (by omega)).trans (seR_ne (by omega)))) (fun a x y => fA a (by omega) (by omega)), smI_no (fun k hk => by rw [fC 61 (by omega)]; exact h1.1 k hk)⟩, fA⟩)⟩
  refine v134 hp0 hp8 ⟨by omega, fun c => absurd c (by omega), fun c => ⟨by omega, fun c => absurd c (by omega), fun c => ⟨c, by omega, fun c3 => ⟨fun c4 => ⟨fun c5 => ⟨c, Fi 0 0 ?_ ?_⟩, fun c5 => absurd c4 (by rw [c5]; decide)⟩, fun c4 => ⟨fun c5 => absurd (by rw [c5]; rfl) c4, fun c5 => ⟨c, Fi 1 1 ?_ ?_⟩⟩⟩, fun c3 => ⟨fun c4 => ⟨fun c5 => absurd c4 (by rw [c5]; decide), fun c5 => ⟨c, Fi 1 0 ?_ ?_⟩⟩, fun c4 => ⟨fun c5 => ⟨c, Fi 0 1 ?_ ?_⟩, fun c5 => absurd (by rw [c5]; rfl) c4⟩⟩⟩⟩⟩
  · rw [c5]; rfl
  · rw [c5, decide_eq_true (show R (30 + 9 * p + 2) = false.toNat by rw [ea] at c3; show _ = 0; omega)]; rfl
  · rw [c5]; rfl
  · rw [c5, decide_eq_false (show ¬ R (30 + 9 * p + 2) = true.toNat by rw [ea] at c3; exact c3)]; rfl
  · rw [c5]; rfl
  · rw [c5, decide_eq_true (show R (30 + 9 * p + 2) = true.toNat by rw [ea] at c3; exact c3)]; rfl
  · rw [c5]; rfl
  · rw [c5, decide_eq_false (show ¬ R (30 + 9 * p + 2) = false.toNat by rw [ea] at c3; show ¬ _ = 0; omega)]; rfl
theorem c_setPatched {X : gv_X} {d : Nat} {G : gv_Sh} {A : Nat → Nat → Nat} {j : Nat → Nat → Int64} {cc : gv_Rs} {p : Nat} {b : Bool} {R : Nat → Nat} (hp0 : oX11 G 0) (hp8 : G.2.1 8 = (100, 8)) (p0 : cK A R) (p1 : p < R 0) : ∃ A1 : Nat → Nat → Nat, Ev X (d + 2) gvm_134 0 (gv_enter [.ref 0, .ref 8, .int (nI p), .int (zo b)] 5) [] (G, (mI A, j), cc) (.inl (some (.int (zo (!decide (R (30 + 9 * p + 2) = Bool.toNat b))))), (G, (mI A1, j), cc)) ∧ (cK A1 (boR (seR R (30 + 9 * p + 2) (Bool.toNat b)))) ∧ (∀ q, ¬ (2 ≤ q ∧ q ≤ 16) → q ≠ 61 → A1 q = A q) := by
  obtain ⟨_, h, A1, rfl, hp⟩ := c_setPatched_p (X := X) (d := d) (G := G) (A := A) (j := j) (cc := cc) (p := p) (b := b) (R := R) (P := fun r => ∃ A1 : Nat → Nat → Nat, r = (.inl (some (.int (zo (!decide (R (30 + 9 * p + 2) = Bool.toNat b))))), (G, (mI A1, j), cc)) ∧ (cK A1 (boR (seR R (30 + 9 * p + 2) (Bool.toNat b)))) ∧ (∀ q, ¬ (2 ≤ q ∧ q ≤ 16) → q ≠ 61 → A1 q = A q)) hp0 hp8 p0 p1 (fun A1 h => ⟨A1, rfl, h⟩)
  exact ⟨A1, h, hp⟩
theorem w132 {X : gv_X} {d : Nat} {G : gv_Sh} {A : Nat → Nat → Nat} {j : Nat → Nat → Int64} {cc : gv_Rs} {P : gv_O × gv_S → Prop} {p : Nat} {b : Bool} {R : Nat → Nat} {Q : Nat → Nat → Nat} (hp0 : oX11 G 0) (H : (p < 4294967296) ∧ ((A 3 0 ≤ 8) ∧ (((p < A 3 0) → (okW R) ∧ ((rW A 2 R) ∧ ((hI A Q) ∧ ((∀ A1v2 : Nat → Nat → Nat, ((hI A1v2 (hcN R Q)) ∧ (A1v2 76 1 = min 12 (A 76 1 + 1)) ∧ (∀ q, q ≠ 76 → (q < 78 ∨ 257 < q) → A1v2 q = A q)) → (cK A1v2 R) ∧ ((p < R 0) ∧ ((∀ A1v3 : Nat → Nat → Nat, ((cK A1v3 (boR (seR R (30 + 9 * p + 2) (Bool.toNat b)))) ∧ (∀ q, ¬ (2 ≤ q ∧ q ≤ 16) → q ≠ 61 → A1v3 q = A1v2 q)) → P (.inl (some (.int (zo (!decide (R (30 + 9 * p + 2) = Bool.toNat b))))), (G, (mI A1v3, j), cc)))))))))) ∧ ((¬ p < A 3 0) → P (.inr 1, gv_ex (G, (mI A, j), cc)))))) : EvP X (d + 3) gvm_132 0 (gv_enter [.ref 0, .int (nI p), .int (zo b)] 3) [] (G, (mI A, j), cc) P :=
  (pv_aload_n rfl rfl   (pv_iload_n rfl rfl   (Or.elim (Decidable.em (p < A 3 0)) (fun c1 => pv_virt rfl rfl rfl rfl rfl (oX11_k hp0) rfl rfl rfl (c_needOp (p := p) (A := A) hp0 H.1 H.2.1 c1) (pv_aload_n rfl rfl   (pv_getP rfl rfl (oX11_k hp0) (oX11_10 hp0)   (pv_aload_n rfl rfl   (pv_getP rfl rfl (oX11_k hp0) (oX11_3 hp0)   (match (c_remember (R := R) (Q := Q) (A := A) (X := X) (d := d + 0) (G := G) (j := j) (cc := cc) (oX11_10c hp0) (oX11_3c hp0) (H.2.2.1 c1).1 (H.2.2.1 c1).2.1 (H.2.2.1 c1).2.2.1 ) with | ⟨A1v2, e3x13, h2⟩ => pv_virt rfl rfl rfl rfl rfl (oX2_k (oX11_10c hp0)) rfl rfl rfl e3x13 (pv_aload_n rfl rfl   (pv_aload_n rfl rfl   (pv_getP rfl rfl (oX11_k hp0) (oX11_3 hp0)   (pv_getP rfl rfl (oX10_k (oX11_3c hp0)) (oX10_0 (oX11_3c hp0))   (pv_getP rfl rfl (oX6_k (oX10_0c (oX11_3c hp0))) (oX6_5 (oX10_0c (oX11_3c hp0)))   (pv_iload_n rfl rfl   (pv_iload_n rfl rfl   (match (c_setPatched (p := p) (b := b) (R := R) (A := A1v2) (X := X) (d := d + 0) (G := G) (j := j) (cc := cc) hp0 (oX6_5c (oX10_0c (oX11_3c hp0))) ((H.2.2.1 c1).2.2.2 A1v2 h2).1 ((H.2.2.1 c1).2.2.2 A1v2 h2).2.1 ) with | ⟨A1v3, e3x29, h3⟩ => pv_virt rfl rfl rfl rfl rfl (oX11_k hp0) rfl rfl rfl e3x29 (pv_iretz rfl rfl (zo_b _) (((H.2.2.1 c1).2.2.2 A1v2 h2).2.2 A1v3 h3)))))))))))))))) (fun c1 => pv_virtT rfl rfl rfl rfl rfl (oX11_k hp0) rfl rfl rfl rfl (c_needOp_x (p := p) (A := A) hp0 H.1 H.2.1 c1) (H.2.2.2 c1)))))
theorem c_patch_p {X : gv_X} {d : Nat} {G : gv_Sh} {A : Nat → Nat → Nat} {j : Nat → Nat → Int64} {cc : gv_Rs} {P : gv_O × gv_S → Prop} {p : Nat} {b : Bool} {R : Nat → Nat} {Q : Nat → Nat → Nat} (hp0 : oX11 G 0) (p0 : cK A R) (p1 : hI A Q) (p2 : p < 4294967296) (hP : ∀ A1 : Nat → Nat → Nat, (acT (spFl R p 2 b).1 A A1 R (boR (seR R (30 + 9 * p + 2) (Bool.toNat b))) Q) ∧ (frJ A A1) → P (oc (fun _ => 1) (spFl R p 2 b).1 (spFl R p 2 b).2.toNat (G, (mI A1, j), cc))) : EvP X (d + 3) gvm_132 0 (gv_enter [.ref 0, .int (nI p), .int (zo b)] 3) [] (G, (mI A, j), cc) P := by
  have ok : ∀ B x, acT (spFl R p 2 b).1 A B R (boR (seR R (30 + 9 * p + 2) b.toNat)) Q ∧ frJ A B → spFl R p 2 b = (0, x) → P (.inl (some (.int (nI x.toNat))), (G, (mI B, j), cc)) := fun B x h1 h3 => by
    have := hP B h1
    rw [h3] at this
    exact this
  have no1 : ∀ B, acT (spFl R p 2 b).1 A B R (boR (seR R (30 + 9 * p + 2) b.toNat)) Q ∧ frJ A B → spFl R p 2 b = (1, false) → P (.inr 1, gv_ex (G, (mI B, j), cc)) := fun B h1 h3 => by
    have := hP B h1
    rw [h3] at this
    exact this
  have n := okW_n p0.1
  have ro : rO A 3 R := p0.2.1.1
  have e0 : A 3 0 = R 0 := ro.1
  refine w132 (R := R) (Q := Q) hp0 ⟨p2, rO_n ro p0.1, fun c1 => ⟨p0.1, p0.2.1, p1, fun B h1 => ?_⟩, fun c1 => ?_⟩
  · have sp0 : spFl R p 2 b = (0, !decide (R (30 + 9 * p + 2) = b.toNat)) := if_neg (by omega)
    have rB : rW B 2 R := rW_fr p0.2.1 (fun q a b => h1.2.2 q (by omega) (by omega))
    have kB : cK B R := cK_ac p0 p0.1 rB (eqS_rf R) (fun q a b => h1.2.2 q (by omega) (by omega))
    refine ⟨kB, by omega, fun C h2 => ?_⟩
    rw [zo_n]
    refine ok C _ ⟨⟨fun _ => ⟨h2.1, hI_of h1.1 (fun q a => h2.2 q (by omega) (by omega)), ?_⟩, fun z => absurd (by rw [sp0]) z⟩, fun q a b c e => (h2.2 q (by omega) (by omega)).trans (h1.2.2 q c (by omega))⟩ sp0
    rw [h2.2 76 (by omega) (by omega)]; exact h1.2.1
  · have sp1 : spFl R p 2 b = (1, false) := if_pos (by omega)
    exact no1 A ⟨⟨fun z => absurd z (by rw [sp1]; decide), fun _ => rfl⟩, frJ_rf A⟩ sp1
theorem w134 {X : gv_X} {d : Nat} {G : gv_Sh} {A : Nat → Nat → Nat} {j : Nat → Nat → Int64} {cc : gv_Rs} {P : gv_O × gv_S → Prop} {p : Nat} {b : Bool} (hp0 : oX11 G 0) (hp7 : G.2.1 7 = (100, 8)) (H : (p < 4294967296) ∧ (((2147483648 ≤ p) → EvP X (d + 2) gvm_134 48 [some (.ref 0), some (.ref 7), some (.int (nI p)), some (.int (zo b)), some (.int (nI 0))] [] (G, (mI A, j), cc) P) ∧ ((p < 2147483648) → (p < 2147483648) ∧ (((8 ≤ p) → EvP X (d + 2) gvm_134 48 [some (.ref 0), some (.ref 7), some (.int (nI p)), some (.int (zo b)), some (.int (nI 0))] [] (G, (mI A, j), cc) P) ∧ ((p < 8) → (p < 8) ∧ (((A 7 p) < 4294967296) ∧ (((¬ (A 7 p) = 1) → (((nI 0) = (zo b)) → ((b = false) → (p < 8) ∧ (EvP X (d + 2) gvm_134 48 [some (.ref 0), some (.ref 7), some (.int (nI p)), some (.int (zo b)), some (.int (nI 0))] [] (G, (mI (gu A 7 p 0), j), cc) P)) ∧ ((b = true) → (p < 8) ∧ (EvP X (d + 2) gvm_134 48 [some (.ref 0), some (.ref 7), some (.int (nI p)), some (.int (zo b)), some (.int (nI 0))] [] (G, (mI (gu A 7 p 1), j), cc) P))) ∧ ((¬ (nI 0) = (zo b)) → ((b = false) → (p < 8) ∧ (EvP X (d + 2) gvm_134 48 [some (.ref 0), some (.ref 7), some (.int (nI p)), some (.int (zo b)), some (.int (nI 1))] [] (G, (mI (gu A 7 p 0), j), cc) P)) ∧ ((b = true) → (p < 8) ∧ (EvP X (d + 2) gvm_134 48 [some (.ref 0), some (.ref 7), some (.int (nI p)), some (.int (zo b)), some (.int (nI 1))] [] (G, (mI (gu A 7 p 1), j), cc) P)))) ∧ (((A 7 p) = 1) → (((nI 1) = (zo b)) → ((b = false) → (p < 8) ∧ (EvP X (d + 2) gvm_134 48 [some (.ref 0), some (.ref 7), some (.int (nI p)), some (.int (zo b)), some (.int (nI 0))] [] (G, (mI (gu A 7 p 0), j), cc) P)) ∧ ((b = true) → (p < 8) ∧ (EvP X (d + 2) gvm_134 48 [some (.ref 0), some (.ref 7), some (.int (nI p)), some (.int (zo b)), some (.int (nI 0))] [] (G, (mI (gu A 7 p 1), j), cc) P))) ∧ ((¬ (nI 1) = (zo b)) → ((b = false) → (p < 8) ∧ (EvP X (d + 2) gvm_134 48 [some (.ref 0), some (.ref 7), some (.int (nI p)), some (.int (zo b)), some (.int (nI 1))] [] (G, (mI (gu A 7 p 0), j), cc) P)) ∧ ((b = true) → (p < 8) ∧ (EvP X (d + 2) gvm_134 48 [some (.ref 0), some (.ref 7), some (.int (nI p)), some (.int (zo b)), some (.int (nI 1))] [] (G, (mI (gu A 7 p 1), j), cc) P))))))))))) : EvP X (d + 2) gvm_134 0 (gv_enter [.ref 0, .ref 7, .int (nI p), .int (zo b)] 5) [] (G, (mI A, j), cc) P :=
  (pn_iconst rfl rfl   (pv_istore rfl rfl   (pv_iload_n rfl rfl   (pn_if_lt rfl H.1 (fun c1 => (H.2.1 c1)) (fun c1 => (pv_iload_n rfl rfl   (pv_aload_n rfl rfl   (pv_alen rfl hp7   (pn_ic_ge rfl (H.2.2 c1).1 (by decide) (fun c2 => ((H.2.2 c1).2.1 c2)) (fun c2 => (pv_aload_n rfl rfl   (pv_iload_n rfl rfl   (pn_iald rfl hp7 (by decide) ((H.2.2 c1).2.2 c2).1 rfl (pn_iconst rfl rfl   (pn_ic_ne rfl ((H.2.2 c1).2.2 c2).2.1 (by decide) (fun c3 => (pn_iconst rfl rfl   (pv_iload_n rfl rfl   (pv_ic_eq rfl  (fun c4 => (pn_iconst rfl rfl   (pv_istore rfl rfl   (pv_aload_n rfl rfl   (pv_iload_n rfl rfl   (pv_iload_n rfl rfl   (pv_if_eq_zo rfl  (fun c5 => (pn_iconst rfl rfl   (pn_iast rfl hp7 (by decide) (((((H.2.2 c1).2.2 c2).2.2.1 c3).1 c4).1 c5).1  (((((H.2.2 c1).2.2 c2).2.2.1 c3).1 c4).1 c5).2))) (fun c5 => (pn_iconst rfl rfl   (pv_goto rfl (pn_iast rfl hp7 (by decide) (((((H.2.2 c1).2.2 c2).2.2.1 c3).1 c4).2 c5).1  (((((H.2.2 c1).2.2 c2).2.2.1 c3).1 c4).2 c5).2))))))))))) (fun c4 => (pn_iconst rfl rfl   (pv_goto rfl (pv_istore rfl rfl   (pv_aload_n rfl rfl   (pv_iload_n rfl rfl   (pv_iload_n rfl rfl   (pv_if_eq_zo rfl  (fun c6 => (pn_iconst rfl rfl   (pn_iast rfl hp7 (by decide) (((((H.2.2 c1).2.2 c2).2.2.1 c3).2 c4).1 c6).1  (((((H.2.2 c1).2.2 c2).2.2.1 c3).2 c4).1 c6).2))) (fun c6 => (pn_iconst rfl rfl   (pv_goto rfl (pn_iast rfl hp7 (by decide) (((((H.2.2 c1).2.2 c2).2.2.1 c3).2 c4).2 c6).1  (((((H.2.2 c1).2.2 c2).2.2.1 c3).2 c4).2 c6).2)))))))))))))))) (fun c3 => (pn_iconst rfl rfl   (pv_goto rfl (pv_iload_n rfl rfl   (pv_ic_eq rfl  (fun c7 => (pn_iconst rfl rfl   (pv_istore rfl rfl   (pv_aload_n rfl rfl   (pv_iload_n rfl rfl   (pv_iload_n rfl rfl   (pv_if_eq_zo rfl  (fun c8 => (pn_iconst rfl rfl   (pn_iast rfl hp7 (by decide) (((((H.2.2 c1).2.2 c2).2.2.2 c3).1 c7).1 c8).1  (((((H.2.2 c1).2.2 c2).2.2.2 c3).1 c7).1 c8).2))) (fun c8 => (pn_iconst rfl rfl   (pv_goto rfl (pn_iast rfl hp7 (by decide) (((((H.2.2 c1).2.2 c2).2.2.2 c3).1 c7).2 c8).1  (((((H.2.2 c1).2.2 c2).2.2.2 c3).1 c7).2 c8).2))))))))))) (fun c7 => (pn_iconst rfl rfl   (pv_goto rfl (pv_istore rfl rfl   (pv_aload_n rfl rfl   (pv_iload_n rfl rfl   (pv_iload_n rfl rfl   (pv_if_eq_zo rfl  (fun c9 => (pn_iconst rfl rfl   (pn_iast rfl hp7 (by decide) (((((H.2.2 c1).2.2 c2).2.2.2 c3).2 c7).1 c9).1  (((((H.2.2 c1).2.2 c2).2.2.2 c3).2 c7).1 c9).2))) (fun c9 => (pn_iconst rfl rfl   (pv_goto rfl (pn_iast rfl hp7 (by decide) (((((H.2.2 c1).2.2 c2).2.2.2 c3).2 c7).2 c9).1  (((((H.2.2 c1).2.2 c2).2.2.2 c3).2 c7).2 c9).2))))))))))))))))))))))))))))))))
theorem w134_48 {X : gv_X} {d : Nat} {G : gv_Sh} {A : Nat → Nat → Nat} {j : Nat → Nat → Int64} {cc : gv_Rs} {P : gv_O × gv_S → Prop} {p : Nat} {b : Bool} {l4 : Nat} {U : Nat → Nat} (hp0 : oX11 G 0) (hp7 : G.2.1 7 = (100, 8)) (H : (∀ A1v1 : Nat → Nat → Nat, ((∀ k, k < 264 → A1v1 61 k = 4294967294) ∧ (∀ a, a ≠ 61 → A1v1 a = A a)) → (okW U) ∧ ((rW A1v1 2 U) ∧ ((∀ A1v2 : Nat → Nat → Nat, ((rW A1v2 2 (boR U)) ∧ (∀ q, q ≠ 2 + 9 → q ≠ 2 + 10 → q ≠ 2 + 11 → q ≠ 2 + 12 → A1v2 q = A1v1 q)) → ((nI l4) = 0 ∨ (nI l4) = 1) ∧ P (.inl (some (.int (nI l4))), (G, (mI A1v2, j), cc))))))) : EvP X (d + 2) gvm_134 48 [some (.ref 0), some (.ref 7), some (.int (nI p)), some (.int (zo b)), some (.int (nI l4))] [] (G, (mI A, j), cc) P :=
  (pv_aload_n rfl rfl   (pv_getP rfl rfl (oX11_k hp0) (oX11_7 hp0)   (match (c_forgetSums (A := A) (X := X) (d := d + 0) (G := G) (j := j) (cc := cc) (oX11_7c hp0) ) with | ⟨A1v1, e2x52, h1⟩ => pv_virt rfl rfl rfl rfl rfl (oX4_k (oX11_7c hp0)) rfl rfl rfl e2x52 (pv_aload_n rfl rfl   (pv_getP rfl rfl (oX11_k hp0) (oX11_3 hp0)   (match (c_startWorld (R := U) (A := A1v1) (X := X) (d := d + 0) (G := G) (j := j) (cc := cc) (oX11_3c hp0) (H A1v1 h1).1 (H A1v1 h1).2.1 ) with | ⟨A1v2, e2x59, h2⟩ => pv_virt rfl rfl rfl rfl rfl (oX10_k (oX11_3c hp0)) rfl rfl rfl e2x59 (pv_iload rfl rfl   (pv_iretz rfl rfl ((H A1v1 h1).2.2 A1v2 h2).1 ((H A1v1 h1).2.2 A1v2 h2).2))))))))
theorem c_setGuarded_p {X : gv_X} {d : Nat} {G : gv_Sh} {A : Nat → Nat → Nat} {j : Nat → Nat → Int64} {cc : gv_Rs} {P : gv_O × gv_S → Prop} {p : Nat} {b : Bool} {R : Nat → Nat} (hp0 : oX11 G 0) (hp7 : G.2.1 7 = (100, 8)) (p0 : cK A R) (p1 : p < R 0) (hP : ∀ A1 : Nat → Nat → Nat, (cK A1 (boR (seR R (30 + 9 * p + 1) (Bool.toNat b)))) ∧ (∀ q, ¬ (2 ≤ q ∧ q ≤ 16) → q ≠ 61 → A1 q = A q) → P (.inl (some (.int (zo (!decide (R (30 + 9 * p + 1) = Bool.toNat b))))), (G, (mI A1, j), cc))) : EvP X (d + 2) gvm_134 0 (gv_enter [.ref 0, .ref 7, .int (nI p), .int (zo b)] 5) [] (G, (mI A, j), cc) P := by
  have n := okW_n p0.1
  have ea : A 7 p = R (30 + 9 * p + 1) := by
    obtain ⟨x1, x2, x3, x4⟩ := p0.2.1.1.2.1 p p1
    exact x2
  have oo := okW_o p0.1 (p := p) (by omega)
  have bl : b.toNat ≤ 1 := Bool.toNat_le b
  have oS : okW (seR R (30 + 9 * p + 1) b.toNat) := okW_fl p0.1 (by omega) (by omega) bl
  have Fi : ∀ v l4, v = b.toNat → l4 = (!decide (R (30 + 9 * p + 1) = b.toNat)).toNat → EvP X (d + 2) gvm_134 48 [some (.ref 0), some (.ref 7), some (.int (nI p)), some (.int (zo b)), some (.int (nI l4))] [] (G, (mI (gu A 7 p v), j), cc) P := by
    intro v l4 hv hl
    have rS : rW (gu A 7 p v) 2 (seR R (30 + 9 * p + 1) b.toNat) := rW_fl p0.2.1 p0.1 p1 (by omega) (fun q hq => gu_row hq) (fun k => by
      by_cases z : k = p
      · rw [z, if_pos rfl, ← hv]; exact gu_hit _ _ _ _
      · rw [if_neg z]; exact gu_k z rfl)
    refine w134_48 (U := (seR R (30 + 9 * p + 1) b.toNat)) hp0 hp7 (fun B h1 => ⟨oS, rW_fr rS (fun q a b => h1.2 q (by omega)), fun C h2 => ?_⟩)
    have fC : ∀ q, ¬ (2 ≤ q ∧ q ≤ 16) → C q = B q := fun q a => h2.2 q (by omega) (by omega) (by omega) (by omega)
    have fA : ∀ q, ¬ (2 ≤ q ∧ q ≤ 16) → q ≠ 61 → C q = A q := fun q a b => by rw [fC q a, h1.2 q b]; exact gu_row (by omega)
    have eV : eqV R (boR (seR R (30 + 9 * p + 1) b.toNat)) := eqV_fl (by omega)
    rw [hl]
    exact ⟨nb01 _, qb (hP C ⟨⟨okW_bo oS, h2.1, knI_of (knI_V p0.1 p0.2.2.1 eV) (fA 55 (by omega) (by omega)), okLw_of p0.2.2.2.1 (eV 2 (by omega)) (fun i hi => (eqG_bo _ i (by omega)).trans (seR_ne (by omega))), rRu_of (rRu_R p0.2.2.2.2.1 (fun i hi => (eqG_bo _ i (by omega)).trans (seR_ne (by omega)))) (fun a x y => fA a (by omega) (by omega)), smI_no (fun k hk => by rw [fC 61 (by omega)]; exact h1.1 k hk)⟩, fA⟩)⟩
  refine w134 hp0 hp7 ⟨by omega, fun c => absurd c (by omega), fun c => ⟨by omega, fun c => absurd c (by omega), fun c => ⟨c, by omega, fun c3 => ⟨fun c4 => ⟨fun c5 => ⟨c, Fi 0 0 ?_ ?_⟩, fun c5 => absurd c4 (by rw [c5]; decide)⟩, fun c4 => ⟨fun c5 => absurd (by rw [c5]; rfl) c4, fun c5 => ⟨c, Fi 1 1 ?_ ?_⟩⟩⟩, fun c3 => ⟨fun c4 => ⟨fun c5 => absurd c4 (by rw [c5]; decide), fun c5 => ⟨c, Fi 1 0 ?_ ?_⟩⟩, fun c4 => ⟨fun c5 => ⟨c, Fi 0 1 ?_ ?_⟩, fun c5 => absurd (by rw [c5]; rfl) c4⟩⟩⟩⟩⟩
  · rw [c5]; rfl
  · rw [c5, decide_eq_true (show R (30 + 9 * p + 1) = false.toNat by rw [ea] at c3; show _ = 0; omega)]; rfl
  · rw [c5]; rfl
  · rw [c5, decide_eq_false (show ¬ R (30 + 9 * p + 1) = true.toNat by rw [ea] at c3; exact c3)]; rfl
  · rw [c5]; rfl
  · rw [c5, decide_eq_true (show R (30 + 9 * p + 1) = true.toNat by rw [ea] at c3; exact c3)]; rfl
  · rw [c5]; rfl
  · rw [c5, decide_eq_false (show ¬ R (30 + 9 * p + 1) = false.toNat by rw [ea] at c3; show ¬ _ = 0; omega)]; rfl
theorem c_setGuarded {X : gv_X} {d : Nat} {G : gv_Sh} {A : Nat → Nat → Nat} {j : Nat → Nat → Int64} {cc : gv_Rs} {p : Nat} {b : Bool} {R : Nat → Nat} (hp0 : oX11 G 0) (hp7 : G.2.1 7 = (100, 8)) (p0 : cK A R) (p1 : p < R 0) : ∃ A1 : Nat → Nat → Nat, Ev X (d + 2) gvm_134 0 (gv_enter [.ref 0, .ref 7, .int (nI p), .int (zo b)] 5) [] (G, (mI A, j), cc) (.inl (some (.int (zo (!decide (R (30 + 9 * p + 1) = Bool.toNat b))))), (G, (mI A1, j), cc)) ∧ (cK A1 (boR (seR R (30 + 9 * p + 1) (Bool.toNat b)))) ∧ (∀ q, ¬ (2 ≤ q ∧ q ≤ 16) → q ≠ 61 → A1 q = A q) := by
  obtain ⟨_, h, A1, rfl, hp⟩ := c_setGuarded_p (X := X) (d := d) (G := G) (A := A) (j := j) (cc := cc) (p := p) (b := b) (R := R) (P := fun r => ∃ A1 : Nat → Nat → Nat, r = (.inl (some (.int (zo (!decide (R (30 + 9 * p + 1) = Bool.toNat b))))), (G, (mI A1, j), cc)) ∧ (cK A1 (boR (seR R (30 + 9 * p + 1) (Bool.toNat b)))) ∧ (∀ q, ¬ (2 ≤ q ∧ q ≤ 16) → q ≠ 61 → A1 q = A q)) hp0 hp7 p0 p1 (fun A1 h => ⟨A1, rfl, h⟩)
  exact ⟨A1, h, hp⟩
theorem w133 {X : gv_X} {d : Nat} {G : gv_Sh} {A : Nat → Nat → Nat} {j : Nat → Nat → Int64} {cc : gv_Rs} {P : gv_O × gv_S → Prop} {p : Nat} {b : Bool} {R : Nat → Nat} {Q : Nat → Nat → Nat} (hp0 : oX11 G 0) (H : (p < 4294967296) ∧ ((A 3 0 ≤ 8) ∧ (((p < A 3 0) → (okW R) ∧ ((rW A 2 R) ∧ ((hI A Q) ∧ ((∀ A1v2 : Nat → Nat → Nat, ((hI A1v2 (hcN R Q)) ∧ (A1v2 76 1 = min 12 (A 76 1 + 1)) ∧ (∀ q, q ≠ 76 → (q < 78 ∨ 257 < q) → A1v2 q = A q)) → (cK A1v2 R) ∧ ((p < R 0) ∧ ((∀ A1v3 : Nat → Nat → Nat, ((cK A1v3 (boR (seR R (30 + 9 * p + 1) (Bool.toNat b)))) ∧ (∀ q, ¬ (2 ≤ q ∧ q ≤ 16) → q ≠ 61 → A1v3 q = A1v2 q)) → P (.inl (some (.int (zo (!decide (R (30 + 9 * p + 1) = Bool.toNat b))))), (G, (mI A1v3, j), cc)))))))))) ∧ ((¬ p < A 3 0) → P (.inr 1, gv_ex (G, (mI A, j), cc)))))) : EvP X (d + 3) gvm_133 0 (gv_enter [.ref 0, .int (nI p), .int (zo b)] 3) [] (G, (mI A, j), cc) P :=
  (pv_aload_n rfl rfl   (pv_iload_n rfl rfl   (Or.elim (Decidable.em (p < A 3 0)) (fun c1 => pv_virt rfl rfl rfl rfl rfl (oX11_k hp0) rfl rfl rfl (c_needOp (p := p) (A := A) hp0 H.1 H.2.1 c1) (pv_aload_n rfl rfl   (pv_getP rfl rfl (oX11_k hp0) (oX11_10 hp0)   (pv_aload_n rfl rfl   (pv_getP rfl rfl (oX11_k hp0) (oX11_3 hp0)   (match (c_remember (R := R) (Q := Q) (A := A) (X := X) (d := d + 0) (G := G) (j := j) (cc := cc) (oX11_10c hp0) (oX11_3c hp0) (H.2.2.1 c1).1 (H.2.2.1 c1).2.1 (H.2.2.1 c1).2.2.1 ) with | ⟨A1v2, e3x13, h2⟩ => pv_virt rfl rfl rfl rfl rfl (oX2_k (oX11_10c hp0)) rfl rfl rfl e3x13 (pv_aload_n rfl rfl   (pv_aload_n rfl rfl   (pv_getP rfl rfl (oX11_k hp0) (oX11_3 hp0)   (pv_getP rfl rfl (oX10_k (oX11_3c hp0)) (oX10_0 (oX11_3c hp0))   (pv_getP rfl rfl (oX6_k (oX10_0c (oX11_3c hp0))) (oX6_4 (oX10_0c (oX11_3c hp0)))   (pv_iload_n rfl rfl   (pv_iload_n rfl rfl   (match (c_setGuarded (p := p) (b := b) (R := R) (A := A1v2) (X := X) (d := d + 0) (G := G) (j := j) (cc := cc) hp0 (oX6_4c (oX10_0c (oX11_3c hp0))) ((H.2.2.1 c1).2.2.2 A1v2 h2).1 ((H.2.2.1 c1).2.2.2 A1v2 h2).2.1 ) with | ⟨A1v3, e3x29, h3⟩ => pv_virt rfl rfl rfl rfl rfl (oX11_k hp0) rfl rfl rfl e3x29 (pv_iretz rfl rfl (zo_b _) (((H.2.2.1 c1).2.2.2 A1v2 h2).2.2 A1v3 h3)))))))))))))))) (fun c1 => pv_virtT rfl rfl rfl rfl rfl (oX11_k hp0) rfl rfl rfl rfl (c_needOp_x (p := p) (A := A) hp0 H.1 H.2.1 c1) (H.2.2.2 c1)))))
theorem c_guard_p {X : gv_X} {d : Nat} {G : gv_Sh} {A : Nat → Nat → Nat} {j : Nat → Nat → Int64} {cc : gv_Rs} {P : gv_O × gv_S → Prop} {p : Nat} {b : Bool} {R : Nat → Nat} {Q : Nat → Nat → Nat} (hp0 : oX11 G 0) (p0 : cK A R) (p1 : hI A Q) (p2 : p < 4294967296) (hP : ∀ A1 : Nat → Nat → Nat, (acT (spFl R p 1 b).1 A A1 R (boR (seR R (30 + 9 * p + 1) (Bool.toNat b))) Q) ∧ (frJ A A1) → P (oc (fun _ => 1) (spFl R p 1 b).1 (spFl R p 1 b).2.toNat (G, (mI A1, j), cc))) : EvP X (d + 3) gvm_133 0 (gv_enter [.ref 0, .int (nI p), .int (zo b)] 3) [] (G, (mI A, j), cc) P := by
  have ok : ∀ B x, acT (spFl R p 1 b).1 A B R (boR (seR R (30 + 9 * p + 1) b.toNat)) Q ∧ frJ A B → spFl R p 1 b = (0, x) → P (.inl (some (.int (nI x.toNat))), (G, (mI B, j), cc)) := fun B x h1 h3 => by
    have := hP B h1
    rw [h3] at this
    exact this
  have no1 : ∀ B, acT (spFl R p 1 b).1 A B R (boR (seR R (30 + 9 * p + 1) b.toNat)) Q ∧ frJ A B → spFl R p 1 b = (1, false) → P (.inr 1, gv_ex (G, (mI B, j), cc)) := fun B h1 h3 => by
    have := hP B h1
    rw [h3] at this
    exact this
  have n := okW_n p0.1
  have ro : rO A 3 R := p0.2.1.1
  have e0 : A 3 0 = R 0 := ro.1
  refine w133 (R := R) (Q := Q) hp0 ⟨p2, rO_n ro p0.1, fun c1 => ⟨p0.1, p0.2.1, p1, fun B h1 => ?_⟩, fun c1 => ?_⟩
  · have sp0 : spFl R p 1 b = (0, !decide (R (30 + 9 * p + 1) = b.toNat)) := if_neg (by omega)
    have rB : rW B 2 R := rW_fr p0.2.1 (fun q a b => h1.2.2 q (by omega) (by omega))
    have kB : cK B R := cK_ac p0 p0.1 rB (eqS_rf R) (fun q a b => h1.2.2 q (by omega) (by omega))
    refine ⟨kB, by omega, fun C h2 => ?_⟩
    rw [zo_n]
    refine ok C _ ⟨⟨fun _ => ⟨h2.1, hI_of h1.1 (fun q a => h2.2 q (by omega) (by omega)), ?_⟩, fun z => absurd (by rw [sp0]) z⟩, fun q a b c e => (h2.2 q (by omega) (by omega)).trans (h1.2.2 q c (by omega))⟩ sp0
    rw [h2.2 76 (by omega) (by omega)]; exact h1.2.1
  · have sp1 : spFl R p 1 b = (1, false) := if_pos (by omega)
    exact no1 A ⟨⟨fun z => absurd z (by rw [sp1]; decide), fun _ => rfl⟩, frJ_rf A⟩ sp1
