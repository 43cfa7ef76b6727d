/-! the class: undo -/
/-- the row S with the law of R -/
def unR (R S : Nat → Nat) : Nat → Nat := fun i => if i < 368 then S i else R i
theorem unR_lo {R S : Nat → Nat} {i : Nat} (h : i < 368) : unR R S i = S i := if_pos h
theorem unR_hi {R S : Nat → Nat} {i : Nat} (h : 368 ≤ i) : unR R S i = R i := if_neg (by omega)
theorem okW_lo {R T : Nat → Nat} (h : okW R) (g : ∀ i, i < 368 → T i = R i) : okW T := by
  have n := okW_n h
  refine ⟨?_, fun k hk => ?_, fun k hk => ?_, fun k hk => ?_, fun q hq => ?_, fun q hq => ?_, fun q hq => ?_, fun k hk => ?_⟩
  · rw [g 0 (by omega), g 1 (by omega), g 2 (by omega), g 3 (by omega), g 4 (by omega), g 5 (by omega), g 6 (by omega), g 7 (by omega), g 8 (by omega), g 9 (by omega), g 10 (by omega), g 11 (by omega)]; exact n
  · rw [g _ (by omega)]; exact okW_p h hk
  · rw [g 3 (by omega)] at hk; rw [g 0 (by omega), g _ (by omega)]; exact okW_pl h hk
  · rw [g _ (by omega)]; exact h.2.2.2.1 k hk
  · have o := h.2.2.2.2.1 q hq
    refine ⟨?_, ?_, ?_, fun k hk => ⟨?_, ?_⟩⟩
    · show T (30 + 9 * q + 0) ≤ 3
      rw [g _ (by omega)]; exact o.1
    · show T (30 + 9 * q + 1) ≤ 1
      rw [g _ (by omega)]; exact o.2.1
    · show T (30 + 9 * q + 2) ≤ 1
      rw [g _ (by omega)]; exact o.2.2.1
    · show T (30 + 9 * q + (3 + 2 * k)) ≤ 10
      rw [g _ (by omega)]; exact (o.2.2.2 k hk).1
    · show T (30 + 9 * q + (3 + 2 * k + 1)) ≤ 7
      rw [g _ (by omega)]; exact (o.2.2.2 k hk).2
  · rw [g 0 (by omega)] at hq
    rw [g _ (by omega)]; exact okW_1 h hq
  · have o := h.2.2.2.2.2.2.1 q hq
    obtain ⟨o1, o2, o3, o4, o5, o6⟩ := o
    refine ⟨?_, ?_, ?_, ⟨?_, ?_⟩, ?_, fun k hk => ?_⟩
    · show T (102 + 13 * q + 0) ≤ 12
      rw [g _ (by omega)]; exact o1
    · show T (102 + 13 * q + 1) ≤ 3
      rw [g _ (by omega)]; exact o2
    · show T (102 + 13 * q + 2) ≤ 1
      rw [g _ (by omega)]; exact o3
    · show T (102 + 13 * q + 3) ≤ 6
      rw [g _ (by omega)]; exact o4.1
    · show T (102 + 13 * q + 3) % 2 = 0
      rw [g _ (by omega)]; exact o4.2
    · show T (102 + 13 * q + 4) ≤ 7
      rw [g _ (by omega)]; exact o5
    · show T (102 + 13 * q + (5 + k)) ≤ 3
      rw [g _ (by omega)]; exact o6 k hk
  · rw [g _ (by omega)]; exact okW_l h hk
theorem rW_lo {A : Nat → Nat → Nat} {w : Nat} {R T : Nat → Nat} (h : rW A w R) (o : okW R) (g : ∀ i, i < 368 → T i = R i) : rW A w T := by
  have m := okW_n o
  obtain ⟨a1, a2, a3, a4, a5, a6, a7⟩ := h
  refine ⟨rO_X a1 o (fun i hi => g i (by omega)), rP_R a2 m.2.2.2.1 (fun i hi => g i (by omega)), fun k hk => ?_, ?_, rC_R a5 (fun i hi => g _ (by omega)), rC_R a6 (fun i hi => g _ (by omega)), rL_R a7 m.2.2.2.2.2.2.2.2.2.2.2.1 (fun i hi => g i (by omega))⟩
  · rw [g _ (by omega)]; exact a3 k hk
  · unfold rN
    rw [g 4 (by omega), g 5 (by omega), g 6 (by omega), g 7 (by omega), g 8 (by omega), g 9 (by omega), g 11 (by omega), g 1 (by omega)]
    exact a4
theorem w187 {X : gv_X} {d : Nat} {G : gv_Sh} {A : Nat → Nat → Nat} {j : Nat → Nat → Int64} {cc : gv_Rs} {P : gv_O × gv_S → Prop} {Q : Nat → Nat → Nat} (hp0 : oX11 G 0) (H : (∀ A1v1 : Nat → Nat → Nat, ((∀ k, k < 264 → A1v1 61 k = 4294967294) ∧ (∀ a, a ≠ 61 → A1v1 a = A a)) → (hI A1v1 Q) ∧ ((∀ A1v2 : Nat → Nat → Nat, (((A1v1 76 1 = 0 → A1v2 = A1v1)) ∧ ((¬ A1v1 76 1 = 0 → rW A1v2 2 (Q 0) ∧ hI A1v2 (fun a => Q (a + 1)) ∧ A1v2 76 1 = A1v1 76 1 - 1)) ∧ (∀ q, ¬ (2 ≤ q ∧ q ≤ 16) → q ≠ 76 → A1v2 q = A1v1 q)) → P (.inl (some (.int (zo (!decide (A1v1 76 1 = 0))))), (G, (mI A1v2, j), cc)))))) : EvP X (d + 3) gvm_187 0 (gv_enter [.ref 0] 1) [] (G, (mI A, j), cc) P :=
  (pv_aload_n rfl rfl   (pv_getP rfl rfl (oX11_k hp0) (oX11_7 hp0)   (match (c_forgetSums (A := A) (X := X) (d := d + 1) (G := G) (j := j) (cc := cc) (oX11_7c hp0) ) with | ⟨A1v1, e2x4, h1⟩ => pv_virt rfl rfl rfl rfl rfl (oX4_k (oX11_7c hp0)) rfl rfl rfl e2x4 (pv_aload_n rfl rfl   (pv_getP rfl rfl (oX11_k hp0) (oX11_10 hp0)   (pv_aload_n rfl rfl   (pv_getP rfl rfl (oX11_k hp0) (oX11_3 hp0)   (match (c_takeBack (Q := Q) (A := A1v1) (X := X) (d := d + 0) (G := G) (j := j) (cc := cc) (oX11_10c hp0) (oX11_3c hp0) (H A1v1 h1).1 ) with | ⟨A1v2, e2x15, h2⟩ => pv_virt rfl rfl rfl rfl rfl (oX2_k (oX11_10c hp0)) rfl rfl rfl e2x15 (pv_iretz rfl rfl (zo_b _) ((H A1v1 h1).2 A1v2 h2))))))))))
theorem c_undo_p {X : gv_X} {d : Nat} {G : gv_Sh} {A : Nat → Nat → Nat} {j : Nat → Nat → Int64} {cc : gv_Rs} {P : gv_O × gv_S → Prop} {R : Nat → Nat} {Q : Nat → Nat → Nat} (hp0 : oX11 G 0) (p0 : cK A R) (p1 : hI A Q) (p2 : ∀ a, a < A 76 1 → eqV R (Q a)) (hP : ∀ A1 : Nat → Nat → Nat, ((A 76 1 = 0 → cK A1 R ∧ A1 76 1 = 0 ∧ hI A1 Q)) ∧ ((¬ A 76 1 = 0 → cK A1 (unR R (Q 0)) ∧ hI A1 (fun a => Q (a + 1)) ∧ A1 76 1 = A 76 1 - 1)) ∧ (frJ A A1) → P (.inl (some (.int (zo (!decide (A 76 1 = 0))))), (G, (mI A1, j), cc))) : EvP X (d + 3) gvm_187 0 (gv_enter [.ref 0] 1) [] (G, (mI A, j), cc) P := by
  refine w187 (Q := Q) hp0 (fun B h1 => ⟨hI_of p1 (fun q a => h1.2 q (by omega)), fun C h2 => ?_⟩)
  have e76 : B 76 = A 76 := h1.2 76 (by decide)
  rw [e76] at h2 ⊢
  have fC : ∀ q, ¬ (2 ≤ q ∧ q ≤ 16) → q ≠ 76 → q ≠ 61 → C q = A q := fun q a b c => (h2.2.2 q a b).trans (h1.2 q c)
  have c61 : ∀ k, k < 264 → C 61 k = 4294967294 := fun k hk => by rw [h2.2.2 61 (by omega) (by omega)]; exact h1.1 k hk
  refine hP C ⟨fun z => ?_, fun z => ?_, fun q a b c e => fC q (by omega) c (by omega)⟩
  · have eC := h2.1 z
    rw [eC]
    exact ⟨⟨p0.1, rW_fr p0.2.1 (fun q a b => h1.2 q (by omega)), knI_of p0.2.2.1 (h1.2 55 (by decide)), p0.2.2.2.1, rRu_of p0.2.2.2.2.1 (fun q a b => h1.2 q (by omega)), smI_no h1.1⟩, by rw [e76]; exact z, hI_of p1 (fun q a => h1.2 q (by omega))⟩
  · obtain ⟨r1, r2, r3⟩ := h2.2.1 z
    have oQ : okW (Q 0) := (p1.2.2 0 (by omega)).1
    have eQ := p2 0 (by omega)
    have eV : eqV R (unR R (Q 0)) := fun i hi => (unR_lo (by omega)).trans (eQ i hi)
    exact ⟨⟨okW_lo oQ (fun i hi => unR_lo hi), rW_lo r1 oQ (fun i hi => unR_lo hi), knI_of (knI_V p0.1 p0.2.2.1 eV) (fC 55 (by omega) (by omega) (by omega)), okLw_of p0.2.2.2.1 (eV 2 (by omega)) (fun i hi => unR_hi hi), rRu_of (rRu_R p0.2.2.2.2.1 (fun i hi => by
      rcases hi with rfl | hi
      · exact eV 2 (by omega)
      · exact unR_hi hi)) (fun q a b => fC q (by omega) (by omega) (by omega)), smI_no c61⟩, r2, r3⟩
theorem c_undo {X : gv_X} {d : Nat} {G : gv_Sh} {A : Nat → Nat → Nat} {j : Nat → Nat → Int64} {cc : gv_Rs} {R : Nat → Nat} {Q : Nat → Nat → Nat} (hp0 : oX11 G 0) (p0 : cK A R) (p1 : hI A Q) (p2 : ∀ a, a < A 76 1 → eqV R (Q a)) : ∃ A1 : Nat → Nat → Nat, Ev X (d + 3) gvm_187 0 (gv_enter [.ref 0] 1) [] (G, (mI A, j), cc) (.inl (some (.int (zo (!decide (A 76 1 = 0))))), (G, (mI A1, j), cc)) ∧ ((A 76 1 = 0 → cK A1 R ∧ A1 76 1 = 0 ∧ hI A1 Q)) ∧ ((¬ A 76 1 = 0 → cK A1 (unR R (Q 0)) ∧ hI A1 (fun a => Q (a + 1)) ∧ A1 76 1 = A 76 1 - 1)) ∧ (frJ A A1) := by
  obtain ⟨_, h, A1, rfl, hp⟩ := c_undo_p (X := X) (d := d) (G := G) (A := A) (j := j) (cc := cc) (R := R) (Q := Q) (P := fun r => ∃ A1 : Nat → Nat → Nat, r = (.inl (some (.int (zo (!decide (A 76 1 = 0))))), (G, (mI A1, j), cc)) ∧ ((A 76 1 = 0 → cK A1 R ∧ A1 76 1 = 0 ∧ hI A1 Q)) ∧ ((¬ A 76 1 = 0 → cK A1 (unR R (Q 0)) ∧ hI A1 (fun a => Q (a + 1)) ∧ A1 76 1 = A 76 1 - 1)) ∧ (frJ A A1)) hp0 p0 p1 p2 (fun A1 h => ⟨A1, rfl, h⟩)
  exact ⟨A1, h, hp⟩
theorem w111 {X : gv_X} {d : Nat} {G : gv_Sh} {A : Nat → Nat → Nat} {j : Nat → Nat → Int64} {cc : gv_Rs} {P : gv_O × gv_S → Prop}  (hp0 : oX11 G 0) (H : (∀ A1v1 : Nat → Nat → Nat, ((∀ k, k < 264 → A1v1 61 k = 4294967294) ∧ (∀ a, a ≠ 61 → A1v1 a = A a)) → P (.inl none, (G, (mI (gu A1v1 76 1 0), j), cc)))) : EvP X (d + 2) gvm_111 0 (gv_enter [.ref 0] 1) [] (G, (mI A, j), cc) P :=
  (pv_aload_n rfl rfl   (pv_getP rfl rfl (oX11_k hp0) (oX11_7 hp0)   (match (c_forgetSums (A := A) (X := X) (d := d + 0) (G := G) (j := j) (cc := cc) (oX11_7c hp0) ) with | ⟨A1v1, e1x4, h1⟩ => pv_virt rfl rfl rfl rfl rfl (oX4_k (oX11_7c hp0)) rfl rfl rfl e1x4 (pv_aload_n rfl rfl   (pv_getP rfl rfl (oX11_k hp0) (oX11_10 hp0)   (pn_iconst rfl rfl   (pn_putI rfl rfl (oX2_k (oX11_10c hp0))   (pv_vret rfl (H A1v1 h1)))))))))
theorem c_forgetActs_p {X : gv_X} {d : Nat} {G : gv_Sh} {A : Nat → Nat → Nat} {j : Nat → Nat → Int64} {cc : gv_Rs} {P : gv_O × gv_S → Prop}  (hp0 : oX11 G 0)  (hP : ∀ A1 : Nat → Nat → Nat, (∀ k, k < 264 → A1 61 k = 4294967294) ∧ (A1 76 1 = 0) ∧ (A1 76 2 = A 76 2) ∧ (∀ q, q ≠ 61 → q ≠ 76 → A1 q = A q) → P (.inl none, (G, (mI A1, j), cc))) : EvP X (d + 2) gvm_111 0 (gv_enter [.ref 0] 1) [] (G, (mI A, j), cc) P := by
  refine w111 hp0 (fun B h1 => hP _ ⟨fun k hk => by rw [gu_row (by decide)]; exact h1.1 k hk, gu_hit _ _ _ _, by rw [gu_k (by decide) rfl, h1.2 76 (by decide)], fun q a b => by rw [gu_row b]; exact h1.2 q a⟩)
theorem c_forgetActs {X : gv_X} {d : Nat} {G : gv_Sh} {A : Nat → Nat → Nat} {j : Nat → Nat → Int64} {cc : gv_Rs}  (hp0 : oX11 G 0)  : ∃ A1 : Nat → Nat → Nat, Ev X (d + 2) gvm_111 0 (gv_enter [.ref 0] 1) [] (G, (mI A, j), cc) (.inl none, (G, (mI A1, j), cc)) ∧ (∀ k, k < 264 → A1 61 k = 4294967294) ∧ (A1 76 1 = 0) ∧ (A1 76 2 = A 76 2) ∧ (∀ q, q ≠ 61 → q ≠ 76 → A1 q = A q) := by
  obtain ⟨_, h, A1, rfl, hp⟩ := c_forgetActs_p (X := X) (d := d) (G := G) (A := A) (j := j) (cc := cc)  (P := fun r => ∃ A1 : Nat → Nat → Nat, r = (.inl none, (G, (mI A1, j), cc)) ∧ (∀ k, k < 264 → A1 61 k = 4294967294) ∧ (A1 76 1 = 0) ∧ (A1 76 2 = A 76 2) ∧ (∀ q, q ≠ 61 → q ≠ 76 → A1 q = A q)) hp0  (fun A1 h => ⟨A1, rfl, h⟩)
  exact ⟨A1, h, hp⟩
