/-! the class: law -/
theorem knI_w {A : Nat → Nat → Nat} {R S : Nat → Nat} (w : okW R) (h : knI A R) (e0 : S 0 = R 0) (e : ∀ i, 30 ≤ i → i < 102 → S i = R i) : knI A S := fun g p x a b c => by
  rcases h g p x a b c with z | ⟨z, y⟩
  · exact Or.inl z
  · refine Or.inr ⟨by rw [e0]; exact z, ?_⟩
    rw [y]
    have hl := (okW_o w b).1
    have ee : ∀ i, i < 9 → S (30 + 9 * p + i) = R (30 + 9 * p + i) := fun i hi => e _ (by omega) (by omega)
    refine (wit_congr ⟨?_, ?_, fun k hk => ⟨?_, ?_⟩⟩ x).symm
    · show seR S _ g _ = seR R _ g _
      unfold seR; rw [if_neg (by omega), if_neg (by omega)]; exact ee 0 (by omega)
    · show seR S _ g _ = seR R _ g _
      unfold seR; rw [if_pos rfl, if_pos rfl]
    all_goals
      have hk : k < seR S (30 + 9 * p + 1) g (30 + 9 * p + 0) := hk
      unfold seR at hk
      rw [if_neg (by omega), ee 0 (by omega)] at hk
      show seR S _ g _ = seR R _ g _
      unfold seR; rw [if_neg (by omega), if_neg (by omega)]; exact ee _ (by omega)
def spLa (t : Nat → Nat) (E : Nat) (R : Nat → Nat) : Nat × Nat := if (raL t E R).1 = 4294967295 then (1, 0) else (0, (raL t E R).1)
def leP (A B : Nat → Nat → Nat) (t : Nat → Nat) (E : Nat) (R : Nat → Nat) : Prop := ((raL t E R).1 ≠ 4294967295 → cK B (lwR (raL t E R)) ∧ B 76 1 = 0 ∧ B 76 2 = A 76 2) ∧ ((raL t E R).1 = 4294967295 → cK B R ∧ B 76 = A 76) ∧ B 0 1 = 0 ∧ B 0 2 = (if (raL t E R).1 = 4294967295 then (raL t E R).2.2.2.2 else 4294967295) ∧ (∀ k, k ≠ 1 → k ≠ 2 → B 0 k = A 0 k) ∧ ∀ q, q ≠ 0 → ¬ (48 ≤ q ∧ q ≤ 53) → q ≠ 61 → ¬ (64 ≤ q ∧ q ≤ 69) → q ≠ 76 → q ≠ 258 → q ≠ 259 → B q = A q
/-- the rules as read are those of the row -/
theorem rRu_rd {B : Nat → Nat → Nat} {r : Nat × (Nat → Nat) × Nat × Nat × Nat} (h : rlI B r.2.1 r.1 r.2.2.1) : rRu B 64 (lwR r) := by
  obtain ⟨h0, h1, h2, h3, h4⟩ := h
  refine ⟨h0, fun z => absurd z (by show (1 : Nat) ≠ 0; decide), fun _ => ⟨h1, fun n hn => ?_⟩⟩
  have hn : n < r.1 := hn
  obtain ⟨g1, g2, g3, g4, g5⟩ := h3 n hn
  have e : ∀ y, lwR r (369 + 4 * n + y) = r.2.1 (1218 + 4 * n + y) := fun y => (lwR_hi (by omega)).trans (shR_l _ n y)
  have e0 : lwR r (369 + 4 * n) = r.2.1 (1218 + 4 * n) := e 0
  unfold rLn
  rw [e0, e 1, e 2, e 3]
  refine ⟨g1, g2, g3, g4, fun i a b => ?_⟩
  have c : ∀ y, lwR r (417 + 2 * i + y) = r.2.1 (1266 + 2 * i + y) := fun y => (lwR_hi (by omega)).trans (shR_c _ i y)
  have c0 : lwR r (417 + 2 * i) = r.2.1 (1266 + 2 * i) := c 0
  rw [c0, c 1]
  exact h4 i (by omega)
theorem rW_rd {A : Nat → Nat → Nat} {t R : Nat → Nat} {E : Nat} (h : rW A 2 R) (o : okW R) : rW A 2 (lwR (raL t E R)) := by
  have g : ∀ i, i ≠ 2 → i < 368 → lwR (raL t E R) i = R i := fun i a b => (lwR_lo a b).trans (raL_o (by omega))
  refine rW_n h o (fun i hi => g i (by omega) (by omega)) ?_ (fun _ _ => rfl) rfl
  obtain ⟨b1, b2, b3, b4, b5, b6, b7, b8⟩ := h.2.2.2.1
  unfold rN
  rw [g 4 (by decide) (by decide), g 5 (by decide) (by decide), g 6 (by decide) (by decide), g 7 (by decide) (by decide), g 8 (by decide) (by decide), g 9 (by decide) (by decide), g 11 (by decide) (by decide), g 1 (by decide) (by decide)]
  exact ⟨b1, b2, b3, b4, b5, b6, b7, b8⟩
theorem w110 {X : gv_X} {d : Nat} {G : gv_Sh} {A : Nat → Nat → Nat} {j : Nat → Nat → Int64} {cc : gv_Rs} {P : gv_O × gv_S → Prop} {t : Nat → Nat} {E : Nat} {R : Nat → Nat} {U : Nat → Nat} (hp0 : oX11 G 0) (H : (A 0 1 ≤ 400) ∧ ((∀ A1v1 : Nat → Nat → Nat, ((A1v1 0 1 = 0) ∧ (∀ k, k ≠ 1 → A1v1 0 k = A 0 k) ∧ (A1v1 258 1 = A 0 1) ∧ (A1v1 258 2 = 0) ∧ (A1v1 258 3 = 4294967295) ∧ (∀ i, i < A 0 1 → A1v1 259 i = A 1 i) ∧ (∀ q, q ≠ 0 → q ≠ 258 → q ≠ 259 → A1v1 q = A q)) → (tI A1v1 t E) ∧ ((A1v1 258 2 = 0) ∧ ((∀ A1v2 : Nat → Nat → Nat, ((rlP A1v1 A1v2 t E R)) → (((!decide ((raL t E R).1 = 4294967295)) = true) → (U 2 ≤ 1) ∧ ((okLw U) ∧ ((rRu (gu A1v2 0 2 (A1v2 258 3)) 64 U) ∧ ((48 + 6 ≤ 64 ∨ 64 + 6 ≤ 48) ∧ ((∀ A1v3 : Nat → Nat → Nat, ((rRu A1v3 48 U) ∧ (∀ a, (a < 48 ∨ 48 + 5 < a) → A1v3 a = (gu A1v2 0 2 (A1v2 258 3)) a) ∧ (A1v3 48 1 = A1v2 64 1)) → (∀ A1v4 : Nat → Nat → Nat, ((∀ k, k < 264 → A1v4 61 k = 4294967294) ∧ (A1v4 76 1 = 0) ∧ (A1v4 76 2 = A1v3 76 2) ∧ (∀ q, q ≠ 61 → q ≠ 76 → A1v4 q = A1v3 q)) → P (.inl (some (.int (nI (A1v4 48 1)))), (G, (mI A1v4, j), cc))))))))) ∧ (((!decide ((raL t E R).1 = 4294967295)) = false) → P (.inr 0, gv_ex (G, (mI (gu A1v2 0 2 (A1v2 258 3)), j), cc))))))))) : EvP X (d + 34) gvm_110 0 (gv_enter [.ref 0] 2) [] (G, (mI A, j), cc) P :=
  (pv_aload_n rfl rfl   (match (c_useTape (A := A) (X := X) (d := d + 31) (G := G) (j := j) (cc := cc) hp0 H.1 ) with | ⟨A1v1, e4x1, h1⟩ => pv_virt rfl rfl rfl rfl rfl (oX11_k hp0) rfl rfl rfl e4x1 (pv_aload_n rfl rfl   (pv_getP rfl rfl (oX11_k hp0) (oX11_13 hp0)   (match (c_readLaw (t := t) (E := E) (R := R) (A := A1v1) (X := X) (d := d + 0) (G := G) (j := j) (cc := cc) (oX11_13c hp0) (H.2 A1v1 h1).1 (H.2 A1v1 h1).2.1 ) with | ⟨A1v2, e4x8, h2⟩ => pv_virt rfl rfl rfl rfl rfl (oX3_k (oX11_13c hp0)) rfl rfl rfl e4x8 (pv_istore_n rfl rfl   (pv_aload_n rfl rfl   (pv_aload_n rfl rfl   (pv_getP rfl rfl (oX11_k hp0) (oX11_11 hp0)   (pn_getI rfl rfl (oX7_k (oX11_11c hp0)) rfl   (pn_putI rfl rfl (oX11_k hp0)   (pv_iload_n rfl rfl   (pv_if_ne_zo rfl  (fun c3 => (pv_aload_n rfl rfl   (pv_getP rfl rfl (oX11_k hp0) (oX11_7 hp0)   (pv_getP rfl rfl (oX4_k (oX11_7c hp0)) (oX4_0 (oX11_7c hp0))   (pv_aload_n rfl rfl   (pv_getP rfl rfl (oX11_k hp0) (oX11_8 hp0)   (match (c_copyRules (R := U) (A := (gu A1v2 0 2 (A1v2 258 3))) (X := X) (d := d + 33) (G := G) (j := j) (cc := cc) (oX4_0c (oX11_7c hp0)) (oX11_8c hp0) (((H.2 A1v1 h1).2.2 A1v2 h2).1 c3).1 (((H.2 A1v1 h1).2.2 A1v2 h2).1 c3).2.1 (((H.2 A1v1 h1).2.2 A1v2 h2).1 c3).2.2.1 (((H.2 A1v1 h1).2.2 A1v2 h2).1 c3).2.2.2.1 ) with | ⟨A1v3, e4x48, h4⟩ => pv_virt rfl rfl rfl rfl rfl (oX8_k (oX4_0c (oX11_7c hp0))) rfl rfl rfl e4x48 (pv_aload_n rfl rfl   (match (c_forgetActs (A := A1v3) (X := X) (d := d + 31) (G := G) (j := j) (cc := cc) hp0 ) with | ⟨A1v4, e4x52, h5⟩ => pv_virt rfl rfl rfl rfl rfl (oX11_k hp0) rfl rfl rfl e4x52 (pv_aload_n rfl rfl   (pv_getP rfl rfl (oX11_k hp0) (oX11_7 hp0)   (pv_getP rfl rfl (oX4_k (oX11_7c hp0)) (oX4_0 (oX11_7c hp0))   (pn_getI rfl rfl (oX8_k (oX4_0c (oX11_7c hp0))) rfl   (pv_ireti rfl rfl (((((H.2 A1v1 h1).2.2 A1v2 h2).1 c3).2.2.2.2 A1v3 h4) A1v4 h5))))))))))))))) (fun c3 => (pv_throw rfl rfl rfl (((H.2 A1v1 h1).2.2 A1v2 h2).2 c3))))))))))))))))
theorem c_law_p {X : gv_X} {d : Nat} {G : gv_Sh} {A : Nat → Nat → Nat} {j : Nat → Nat → Int64} {cc : gv_Rs} {P : gv_O × gv_S → Prop} {t : Nat → Nat} {R : Nat → Nat} (hp0 : oX11 G 0) (p0 : cK A R) (p1 : A 0 1 ≤ 400) (p2 : ∀ i, i < A 0 1 → A 1 i < 256 ∧ t i = sx8 (A 1 i)) (hP : ∀ A1 : Nat → Nat → Nat, (leP A A1 t (A 0 1) R) → P (oc (fun _ => 0) (spLa t (A 0 1) R).1 (spLa t (A 0 1) R).2 (G, (mI A1, j), cc))) : EvP X (d + 34) gvm_110 0 (gv_enter [.ref 0] 2) [] (G, (mI A, j), cc) P := by
  have ok : ∀ B x, leP A B t (A 0 1) R → spLa t (A 0 1) R = (0, x) → P (.inl (some (.int (nI x))), (G, (mI B, j), cc)) := fun B x h1 h3 => by
    have := hP B h1
    rw [h3] at this
    exact this
  have no1 : ∀ B, leP A B t (A 0 1) R → spLa t (A 0 1) R = (1, 0) → P (.inr 0, gv_ex (G, (mI B, j), cc)) := fun B h1 h3 => by
    have := hP B h1
    rw [h3] at this
    exact this
  have n := okW_n p0.1
  refine w110 (t := t) (E := A 0 1) (R := R) (U := lwR (raL t (A 0 1) R)) hp0 ⟨p1, fun B1 h1 => ⟨⟨h1.2.2.1, p1, fun i hi => by rw [h1.2.2.2.2.2.1 i hi]; exact p2 i hi⟩, h1.2.2.2.1, fun B2 h2 => ?_⟩⟩
  have f2 : ∀ q, q ≠ 0 → ¬ (64 ≤ q ∧ q ≤ 69) → q ≠ 258 → q ≠ 259 → B2 q = A q := fun q a b c d => (h2.2.2 q b c).trans (h1.2.2.2.2.2.2 q a c d)
  have gq : ∀ q, q ≠ 0 → gu B2 0 2 (B2 258 3) q = B2 q := fun q hq => gu_row hq
  have fq : ∀ q, q ≠ 0 → ¬ (64 ≤ q ∧ q ≤ 69) → q ≠ 258 → q ≠ 259 → gu B2 0 2 (B2 258 3) q = A q := fun q a b c d => (gq q a).trans (f2 q a b c d)
  have f01 : ∀ k, k ≠ 2 → gu B2 0 2 (B2 258 3) 0 k = B1 0 k := fun k hk => by rw [gu_k hk rfl, h2.2.2 0 (by omega) (by omega)]
  refine ⟨fun c1 => ?_, fun c1 => ?_⟩
  · have nr := nd_t c1
    obtain ⟨u1, u2⟩ := h2.1 nr
    have oW : okW (lwR (raL t (A 0 1) R)) := okW_rd p0.1
    have oL := okLw_rd (t := t) (R := R) p1 nr
    have r3 : rRu (gu B2 0 2 (B2 258 3)) 64 (lwR (raL t (A 0 1) R)) := rRu_of (rRu_rd u1) (fun q a b => gq q (by omega))
    refine ⟨(okW_n oW).2.2.1, oL, r3, by omega, fun B4 h4 B5 h5 => ?_⟩
    have f5 : ∀ q, q ≠ 0 → ¬ (48 ≤ q ∧ q ≤ 53) → q ≠ 61 → ¬ (64 ≤ q ∧ q ≤ 69) → q ≠ 76 → q ≠ 258 → q ≠ 259 → B5 q = A q := fun q a b c d e f g => (h5.2.2.2 q c e).trans ((h4.2.1 q (by omega)).trans (fq q a d f g))
    have v5 : B5 48 1 = (raL t (A 0 1) R).1 := by
      rw [h5.2.2.2 48 (by omega) (by omega), h4.2.2]; exact u1.2.1
    have b0 : ∀ k, B5 0 k = gu B2 0 2 (B2 258 3) 0 k := fun k => by rw [h5.2.2.2 0 (by omega) (by omega), h4.2.1 0 (by omega)]
    rw [v5]
    have g : ∀ i, i ≠ 2 → i < 368 → lwR (raL t (A 0 1) R) i = R i := fun i a b => (lwR_lo a b).trans (raL_o (by omega))
    refine ok B5 _ ⟨fun _ => ⟨⟨oW, ?_, ?_, oL, rRu_of h4.1 (fun q a b => h5.2.2.2 q (by omega) (by omega)), smI_no h5.1⟩, h5.2.1, ?_⟩, fun z => absurd z nr, ?_, ?_, fun k a b => ?_, f5⟩ (by unfold spLa; rw [if_neg nr])
    · exact rW_fr (rW_rd p0.2.1 p0.1) (fun q a b => f5 q (by omega) (by omega) (by omega) (by omega) (by omega) (by omega) (by omega))
    · exact knI_of (knI_w p0.1 p0.2.2.1 (g 0 (by decide) (by decide)) (fun i a b => g i (by omega) (by omega))) (f5 55 (by omega) (by omega) (by omega) (by omega) (by omega) (by omega) (by omega))
    · rw [h5.2.2.1, h4.2.1 76 (by omega), fq 76 (by omega) (by omega) (by omega) (by omega)]
    · rw [b0, f01 1 (by decide)]; exact h1.1
    · rw [b0, gu_hit, u2, if_neg nr]; exact h1.2.2.2.2.1
    · rw [b0, f01 k b]; exact h1.2.1 k a
  · have nr := nd_f c1
    refine no1 _ ⟨fun z => absurd nr z, fun _ => ⟨⟨p0.1, rW_fr p0.2.1 (fun q a b => fq q (by omega) (by omega) (by omega) (by omega)), knI_of p0.2.2.1 (fq 55 (by omega) (by omega) (by omega) (by omega)), p0.2.2.2.1, rRu_of p0.2.2.2.2.1 (fun q a b => fq q (by omega) (by omega) (by omega) (by omega)), smI_of p0.2.2.2.2.2 (fq 61 (by omega) (by omega) (by omega) (by omega))⟩, fq 76 (by omega) (by omega) (by omega) (by omega)⟩, ?_, ?_, fun k a b => ?_, fun q a b c d e f g => fq q a d f g⟩ (by unfold spLa; rw [if_pos nr])
    · rw [f01 1 (by decide)]; exact h1.1
    · rw [gu_hit, if_pos nr]; exact h2.2.1 nr
    · rw [f01 k b]; exact h1.2.1 k a
