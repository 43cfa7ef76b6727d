/-! the class: Ledger -/
def sbV (R : Nat → Nat) (p c : Nat) : Nat := if c = 0 then p else if c = 1 then R (30 + 9 * p + 0) else if c ≤ 5 then (if wit R p (c - 2) = 4294967295 then 0 else 1) else if c = 6 then usN R p else if c = 7 then R (30 + 9 * p + 1) else if c = 8 then R (30 + 9 * p + 2) else (if wit R p 0 = 4294967295 ∧ wit R p 1 = 4294967295 ∧ wit R p 2 = 4294967295 then 0 else 1)
theorem tbF_b (R : Nat → Nat) (p : Nat) : tbF R p % 2 = (if wit R p 0 = 4294967295 then 0 else 1) ∧ tbF R p / 2 % 2 = (if wit R p 1 = 4294967295 then 0 else 1) ∧ tbF R p / 4 % 2 = (if wit R p 2 = 4294967295 then 0 else 1) ∧ tbF R p / 8 % 2 = (if wit R p 3 = 4294967295 then 0 else 1) ∧ (tbF R p % 8 = 0 ↔ wit R p 0 = 4294967295 ∧ wit R p 1 = 4294967295 ∧ wit R p 2 = 4294967295) := by
  unfold tbF
  simp only [tbN]
  by_cases h0 : wit R p 0 = 4294967295 <;> by_cases h1 : wit R p 1 = 4294967295 <;> by_cases h2 : wit R p 2 = 4294967295 <;> by_cases h3 : wit R p 3 = 4294967295 <;> simp [h0, h1, h2, h3]
theorem sbV_eq (R : Nat → Nat) (p c n : Nat) (h : c ≤ 9) : sbV R p c = fct R (tbF R p) p c n := by
  obtain ⟨b0, b1, b2, b3, b4⟩ := tbF_b R p
  rcases (by omega : c = 0 ∨ c = 1 ∨ c = 2 ∨ c = 3 ∨ c = 4 ∨ c = 5 ∨ c = 6 ∨ c = 7 ∨ c = 8 ∨ c = 9) with rfl | rfl | rfl | rfl | rfl | rfl | rfl | rfl | rfl | rfl
  · rfl
  · rfl
  · exact b0.symm
  · exact b1.symm
  · exact b2.symm
  · exact b3.symm
  · rfl
  · rfl
  · rfl
  · show (if _ then 0 else 1) = (if tbF R p % 8 = 0 then 0 else 1)
    by_cases z : tbF R p % 8 = 0
    · rw [if_pos z, if_pos (b4.mp z)]
    · rw [if_neg z, if_neg (fun y => z (b4.mpr y))]
/-- rows whose ops and law are the same -/
def eqS (R S : Nat → Nat) : Prop := ∀ i, i = 0 ∨ i = 2 ∨ (30 ≤ i ∧ i < 102) ∨ 368 ≤ i → S i = R i
theorem eqS_rf (R : Nat → Nat) : eqS R R := fun _ _ => rfl
theorem eqS_tr {R S T : Nat → Nat} (h : eqS R S) (h2 : eqS S T) : eqS R T := fun i hi => (h2 i hi).trans (h i hi)
theorem eqX_S {R S : Nat → Nat} (h : eqX R S) : eqS R S := fun i hi => h i (by omega)
theorem fct_S {R S : Nat → Nat} (h : eqS R S) {p : Nat} (hp : p < 8) (hu : usN S p = usN R p) (t c n : Nat) : fct S t p c n = fct R t p c n := by
  unfold fct
  rw [hu, h (30 + 9 * p + 0) (by omega), h (30 + 9 * p + 1) (by omega), h (30 + 9 * p + 2) (by omega)]
theorem hlS_S {R S : Nat → Nat} (h : eqS R S) {p : Nat} (hp : p < 8) (hu : usN S p = usN R p) (t n : Nat) : hlS S t p n = hlS R t p n := by
  unfold hlS hld
  have e1 : (fun i => fct S t p (S (417 + 2 * i)) (S (417 + 2 * i + 1))) = (fun i => fct R t p (R (417 + 2 * i)) (R (417 + 2 * i + 1))) := by
    funext i
    rw [h (417 + 2 * i) (by omega), h (417 + 2 * i + 1) (by omega), fct_S h hp hu]
  have e2 : (fun i => S (417 + 2 * i)) = (fun i => R (417 + 2 * i)) := by
    funext i
    rw [h (417 + 2 * i) (by omega)]
  rw [e1, e2, h (369 + 4 * n + 3) (by omega), h (369 + 4 * n + 2) (by omega)]
theorem smN_S {R S : Nat → Nat} (h : eqS R S) {p : Nat} (hp : p < 8) (hu : usN S p = usN R p) (t w : Nat) : ∀ n, smN S t p w n = smN R t p w n
  | 0 => rfl
  | n + 1 => by
    unfold smN
    rw [smN_S h hp hu t w n, h (369 + 4 * n) (by omega), h (369 + 4 * n + 1) (by omega), hlS_S h hp hu]
theorem lsum_S {R S : Nat → Nat} (h : eqS R S) {p : Nat} (hp : p < 8) (hu : usN S p = usN R p) (t w : Nat) : lsum S t p w = lsum R t p w := by
  unfold lsum
  rw [h 2 (by omega), h 368 (by omega), smN_S h hp hu]
theorem opEq_S {R S : Nat → Nat} (h : eqS R S) {p : Nat} (hp : p < 8) (hl : R (30 + 9 * p + 0) ≤ 3) : opEq S R p := ⟨h _ (by omega), h _ (by omega), fun k hk => ⟨h _ (by rw [h _ (by omega)] at hk; omega), h _ (by rw [h _ (by omega)] at hk; omega)⟩⟩
theorem tbF_S {R S : Nat → Nat} (w : okW R) (h : eqS R S) {p : Nat} (hp : p < 8) : tbF S p = tbF R p := tbN_congr (opEq_S h hp (okW_o w hp).1) 4
theorem wit_S {R S : Nat → Nat} (w : okW R) (h : eqS R S) {p : Nat} (hp : p < 8) (x : Nat) : wit S p x = wit R p x := wit_congr (opEq_S h hp (okW_o w hp).1) x
/-- sums that are kept are right -/
def smI (A : Nat → Nat → Nat) (R : Nat → Nat) : Prop := ∀ so p u, so < 3 → p < 8 → u ≤ 10 → A 61 ((so * 8 + p) * 11 + u) = 4294967294 ∨ (p < R 0 ∧ ∀ S, eqS R S → usN S p = u → A 61 ((so * 8 + p) * 11 + u) = lsum S (tbF R p) p so)
theorem smI_of {A B : Nat → Nat → Nat} {R : Nat → Nat} (h : smI A R) (e : B 61 = A 61) : smI B R := fun a b c d f g => by rw [e]; exact h a b c d f g
theorem smI_S {A : Nat → Nat → Nat} {R S : Nat → Nat} (w : okW R) (h : smI A R) (e : eqS R S) : smI A S := fun a b c d f g => by
  rcases h a b c d f g with z | ⟨z, y⟩
  · exact Or.inl z
  · refine Or.inr ⟨by rw [e 0 (by omega)]; exact z, fun T h1 h2 => ?_⟩
    rw [tbF_S w e f]; exact y T (eqS_tr e h1) h2
theorem knI_S {A : Nat → Nat → Nat} {R S : Nat → Nat} (w : okW R) (h : knI A R) (e : eqS R S) : knI A S := fun g p x a b c => by
  rcases h g p x a b c with z | ⟨z, y⟩
  · exact Or.inl z
  · refine Or.inr ⟨by rw [e 0 (by omega)]; exact z, ?_⟩
    rw [y]
    have hl := (okW_o w b).1
    refine (wit_congr ⟨?_, ?_, fun k hk => ⟨?_, ?_⟩⟩ x).symm
    · show seR S _ g _ = seR R _ g _
      unfold seR; rw [if_neg (by omega), if_neg (by omega)]; exact e _ (by omega)
    · show seR S _ g _ = seR R _ g _
      unfold seR; rw [if_pos rfl, if_pos rfl]
    all_goals
      have hk : k < seR S (30 + 9 * p + 1) g (30 + 9 * p + 0) := hk
      unfold seR at hk
      rw [if_neg (by omega), e _ (by omega)] at hk
      show seR S _ g _ = seR R _ g _
      unfold seR; rw [if_neg (by omega), if_neg (by omega)]; exact e _ (by omega)
theorem stT_S {A : Nat → Nat → Nat} {R S : Nat → Nat} (w : okW R) (h : stT A R) (e : eqS R S) : stT A S := fun p x a b => by
  rw [e 0 (by omega)] at a
  have := (okW_n w).1
  rw [wit_S w e (by omega)]; exact h p x a b
/-- the program as the class has it -/
def rP (A : Nat → Nat → Nat) (w : Nat) (R : Nat → Nat) : Prop := A w 2 = R 3 ∧ ∀ k, k < R 3 → A (w + 7) k = R (12 + k)
theorem rP_us {A : Nat → Nat → Nat} {w : Nat} {R : Nat → Nat} (h : rP A w R) (p : Nat) : cntN (fun k => decide (A (w + 7) k = p)) (A w 2) = usN R p := by
  unfold usN
  rw [h.1]
  exact cntN_congr (fun k hk => by rw [h.2 k hk])
theorem rP_b {A : Nat → Nat → Nat} {w : Nat} {R : Nat → Nat} (h : rP A w R) (o : okW R) : A w 2 ≤ 10 ∧ ∀ k, k < A w 2 → A (w + 7) k < 4294967296 := by
  have := (okW_n o).2.2.2.1
  refine ⟨by rw [h.1]; exact this, fun k hk => ?_⟩
  rw [h.1] at hk
  rw [h.2 k hk]
  have := okW_p o (k := k) (by omega)
  omega
theorem w37 {X : gv_X} {d : Nat} {G : gv_Sh} {A : Nat → Nat → Nat} {j : Nat → Nat → Int64} {cc : gv_Rs} {P : gv_O × gv_S → Prop} {o : Nat} {p : Nat} {u : Nat} (hp47 : oX4 G 47) (ho : oX6 G o) (H : EvP X (d + 2) gvm_37 7 [some (.ref 47), some (.ref o), some (.int (nI p)), some (.int (nI u))] [] (G, (mI (gu A 62 0 p), j), cc) P) : EvP X (d + 2) gvm_37 0 (gv_enter [.ref 47, .ref o, .int (nI p), .int (nI u)] 4) [] (G, (mI A, j), cc) P :=
  (pv_aload_n rfl rfl   (pv_getP rfl rfl (oX4_k hp47) (oX4_3 hp47)   (pn_iconst rfl rfl   (pv_iload_n rfl rfl   (pn_iast rfl (oX4_3c hp47) (by decide) (by decide)  H)))))
theorem w37_7 {X : gv_X} {d : Nat} {G : gv_Sh} {A : Nat → Nat → Nat} {j : Nat → Nat → Int64} {cc : gv_Rs} {P : gv_O × gv_S → Prop} {o : Nat} {p : Nat} {u : Nat} (hp47 : oX4 G 47) (ho : oX6 G o) (H : (p < 4294967296) ∧ ((A o 0 ≤ 8) ∧ (EvP X (d + 2) gvm_37 18 [some (.ref 47), some (.ref o), some (.int (nI p)), some (.int (nI u))] [] (G, (mI (gu A 62 1 (if p < A o 0 then A (o + 1) p else 0)), j), cc) P))) : EvP X (d + 2) gvm_37 7 [some (.ref 47), some (.ref o), some (.int (nI p)), some (.int (nI u))] [] (G, (mI A, j), cc) P :=
  (pv_aload_n rfl rfl   (pv_getP rfl rfl (oX4_k hp47) (oX4_3 hp47)   (pn_iconst rfl rfl   (pv_aload_n rfl rfl   (pv_iload_n rfl rfl   (pv_virt rfl rfl rfl rfl rfl (oX6_k ho) rfl rfl rfl (c_size (p := p) (o := o) (A := A) ho H.1 H.2.1 ) (pn_iast rfl (oX4_3c hp47) (by decide) (by decide)  H.2.2)))))))
theorem w37_18 {X : gv_X} {d : Nat} {G : gv_Sh} {A : Nat → Nat → Nat} {j : Nat → Nat → Int64} {cc : gv_Rs} {P : gv_O × gv_S → Prop} {o : Nat} {p : Nat} {u : Nat} (hp47 : oX4 G 47) (ho : oX6 G o) (H : (p < 8) ∧ ((A 56 (p * 4 + 0) < 4294967296) ∧ (((¬ (¬ A 56 (p * 4 + 0) = 4294967295)) → EvP X (d + 2) gvm_37 41 [some (.ref 47), some (.ref o), some (.int (nI p)), some (.int (nI u))] [] (G, (mI (gu A 62 2 0), j), cc) P) ∧ ((¬ A 56 (p * 4 + 0) = 4294967295) → EvP X (d + 2) gvm_37 41 [some (.ref 47), some (.ref o), some (.int (nI p)), some (.int (nI u))] [] (G, (mI (gu A 62 2 1), j), cc) P)))) : EvP X (d + 2) gvm_37 18 [some (.ref 47), some (.ref o), some (.int (nI p)), some (.int (nI u))] [] (G, (mI A, j), cc) P :=
  (pv_aload_n rfl rfl   (pv_getP rfl rfl (oX4_k hp47) (oX4_3 hp47)   (pn_iconst rfl rfl   (pv_aload_n rfl rfl   (pv_getP rfl rfl (oX4_k hp47) (oX4_1 hp47)   (pv_iload_n rfl rfl   (pn_iconst rfl rfl   (pv_virt rfl rfl rfl rfl rfl (oX9_k (oX4_1c hp47)) rfl rfl rfl (c_shows (p := p) (h := 0) (A := A) (oX4_1c hp47) H.1 (by decide) H.2.1 ) (pv_if_eq_dc rfl  (fun c1 => (pn_iconst rfl rfl   (pn_iast rfl (oX4_3c hp47) (by decide) (by decide)  (H.2.2.1 c1)))) (fun c1 => (pn_iconst rfl rfl   (pv_goto rfl (pn_iast rfl (oX4_3c hp47) (by decide) (by decide)  (H.2.2.2 c1))))))))))))))
theorem w37_41 {X : gv_X} {d : Nat} {G : gv_Sh} {A : Nat → Nat → Nat} {j : Nat → Nat → Int64} {cc : gv_Rs} {P : gv_O × gv_S → Prop} {o : Nat} {p : Nat} {u : Nat} (hp47 : oX4 G 47) (ho : oX6 G o) (H : (p < 8) ∧ ((A 56 (p * 4 + 1) < 4294967296) ∧ (((¬ (¬ A 56 (p * 4 + 1) = 4294967295)) → EvP X (d + 2) gvm_37 64 [some (.ref 47), some (.ref o), some (.int (nI p)), some (.int (nI u))] [] (G, (mI (gu A 62 3 0), j), cc) P) ∧ ((¬ A 56 (p * 4 + 1) = 4294967295) → EvP X (d + 2) gvm_37 64 [some (.ref 47), some (.ref o), some (.int (nI p)), some (.int (nI u))] [] (G, (mI (gu A 62 3 1), j), cc) P)))) : EvP X (d + 2) gvm_37 41 [some (.ref 47), some (.ref o), some (.int (nI p)), some (.int (nI u))] [] (G, (mI A, j), cc) P :=
  (pv_aload_n rfl rfl   (pv_getP rfl rfl (oX4_k hp47) (oX4_3 hp47)   (pn_iconst rfl rfl   (pv_aload_n rfl rfl   (pv_getP rfl rfl (oX4_k hp47) (oX4_1 hp47)   (pv_iload_n rfl rfl   (pn_iconst rfl rfl   (pv_virt rfl rfl rfl rfl rfl (oX9_k (oX4_1c hp47)) rfl rfl rfl (c_shows (p := p) (h := 1) (A := A) (oX4_1c hp47) H.1 (by decide) H.2.1 ) (pv_if_eq_dc rfl  (fun c1 => (pn_iconst rfl rfl   (pn_iast rfl (oX4_3c hp47) (by decide) (by decide)  (H.2.2.1 c1)))) (fun c1 => (pn_iconst rfl rfl   (pv_goto rfl (pn_iast rfl (oX4_3c hp47) (by decide) (by decide)  (H.2.2.2 c1))))))))))))))
theorem w37_64 {X : gv_X} {d : Nat} {G : gv_Sh} {A : Nat → Nat → Nat} {j : Nat → Nat → Int64} {cc : gv_Rs} {P : gv_O × gv_S → Prop} {o : Nat} {p : Nat} {u : Nat} (hp47 : oX4 G 47) (ho : oX6 G o) (H : (p < 8) ∧ ((A 56 (p * 4 + 2) < 4294967296) ∧ (((¬ (¬ A 56 (p * 4 + 2) = 4294967295)) → EvP X (d + 2) gvm_37 87 [some (.ref 47), some (.ref o), some (.int (nI p)), some (.int (nI u))] [] (G, (mI (gu A 62 4 0), j), cc) P) ∧ ((¬ A 56 (p * 4 + 2) = 4294967295) → EvP X (d + 2) gvm_37 87 [some (.ref 47), some (.ref o), some (.int (nI p)), some (.int (nI u))] [] (G, (mI (gu A 62 4 1), j), cc) P)))) : EvP X (d + 2) gvm_37 64 [some (.ref 47), some (.ref o), some (.int (nI p)), some (.int (nI u))] [] (G, (mI A, j), cc) P :=
  (pv_aload_n rfl rfl   (pv_getP rfl rfl (oX4_k hp47) (oX4_3 hp47)   (pn_iconst rfl rfl   (pv_aload_n rfl rfl   (pv_getP rfl rfl (oX4_k hp47) (oX4_1 hp47)   (pv_iload_n rfl rfl   (pn_iconst rfl rfl   (pv_virt rfl rfl rfl rfl rfl (oX9_k (oX4_1c hp47)) rfl rfl rfl (c_shows (p := p) (h := 2) (A := A) (oX4_1c hp47) H.1 (by decide) H.2.1 ) (pv_if_eq_dc rfl  (fun c1 => (pn_iconst rfl rfl   (pn_iast rfl (oX4_3c hp47) (by decide) (by decide)  (H.2.2.1 c1)))) (fun c1 => (pn_iconst rfl rfl   (pv_goto rfl (pn_iast rfl (oX4_3c hp47) (by decide) (by decide)  (H.2.2.2 c1))))))))))))))
theorem w37_87 {X : gv_X} {d : Nat} {G : gv_Sh} {A : Nat → Nat → Nat} {j : Nat → Nat → Int64} {cc : gv_Rs} {P : gv_O × gv_S → Prop} {o : Nat} {p : Nat} {u : Nat} (hp47 : oX4 G 47) (ho : oX6 G o) (H : (p < 8) ∧ ((A 56 (p * 4 + 3) < 4294967296) ∧ (((¬ (¬ A 56 (p * 4 + 3) = 4294967295)) → EvP X (d + 2) gvm_37 110 [some (.ref 47), some (.ref o), some (.int (nI p)), some (.int (nI u))] [] (G, (mI (gu A 62 5 0), j), cc) P) ∧ ((¬ A 56 (p * 4 + 3) = 4294967295) → EvP X (d + 2) gvm_37 110 [some (.ref 47), some (.ref o), some (.int (nI p)), some (.int (nI u))] [] (G, (mI (gu A 62 5 1), j), cc) P)))) : EvP X (d + 2) gvm_37 87 [some (.ref 47), some (.ref o), some (.int (nI p)), some (.int (nI u))] [] (G, (mI A, j), cc) P :=
  (pv_aload_n rfl rfl   (pv_getP rfl rfl (oX4_k hp47) (oX4_3 hp47)   (pn_iconst rfl rfl   (pv_aload_n rfl rfl   (pv_getP rfl rfl (oX4_k hp47) (oX4_1 hp47)   (pv_iload_n rfl rfl   (pn_iconst rfl rfl   (pv_virt rfl rfl rfl rfl rfl (oX9_k (oX4_1c hp47)) rfl rfl rfl (c_shows (p := p) (h := 3) (A := A) (oX4_1c hp47) H.1 (by decide) H.2.1 ) (pv_if_eq_dc rfl  (fun c1 => (pn_iconst rfl rfl   (pn_iast rfl (oX4_3c hp47) (by decide) (by decide)  (H.2.2.1 c1)))) (fun c1 => (pn_iconst rfl rfl   (pv_goto rfl (pn_iast rfl (oX4_3c hp47) (by decide) (by decide)  (H.2.2.2 c1))))))))))))))
theorem w37_110 {X : gv_X} {d : Nat} {G : gv_Sh} {A : Nat → Nat → Nat} {j : Nat → Nat → Int64} {cc : gv_Rs} {P : gv_O × gv_S → Prop} {o : Nat} {p : Nat} {u : Nat} (hp47 : oX4 G 47) (ho : oX6 G o) (H : EvP X (d + 2) gvm_37 118 [some (.ref 47), some (.ref o), some (.int (nI p)), some (.int (nI u))] [] (G, (mI (gu A 62 6 u), j), cc) P) : EvP X (d + 2) gvm_37 110 [some (.ref 47), some (.ref o), some (.int (nI p)), some (.int (nI u))] [] (G, (mI A, j), cc) P :=
  (pv_aload_n rfl rfl   (pv_getP rfl rfl (oX4_k hp47) (oX4_3 hp47)   (pn_bipush rfl rfl   (pv_iload_n rfl rfl   (pn_iast rfl (oX4_3c hp47) (by decide) (by decide)  H)))))
theorem w37_118 {X : gv_X} {d : Nat} {G : gv_Sh} {A : Nat → Nat → Nat} {j : Nat → Nat → Int64} {cc : gv_Rs} {P : gv_O × gv_S → Prop} {o : Nat} {p : Nat} {u : Nat} (hp47 : oX4 G 47) (ho : oX6 G o) (H : (p < 4294967296) ∧ ((A o 0 ≤ 8) ∧ ((∀ z, z < A o 0 → A (o + 4) z ≤ 1) ∧ (((¬ (p < A o 0 ∧ A (o + 4) p = 1)) → EvP X (d + 2) gvm_37 138 [some (.ref 47), some (.ref o), some (.int (nI p)), some (.int (nI u))] [] (G, (mI (gu A 62 7 0), j), cc) P) ∧ ((p < A o 0 ∧ A (o + 4) p = 1) → EvP X (d + 2) gvm_37 138 [some (.ref 47), some (.ref o), some (.int (nI p)), some (.int (nI u))] [] (G, (mI (gu A 62 7 1), j), cc) P))))) : EvP X (d + 2) gvm_37 118 [some (.ref 47), some (.ref o), some (.int (nI p)), some (.int (nI u))] [] (G, (mI A, j), cc) P :=
  (pv_aload_n rfl rfl   (pv_getP rfl rfl (oX4_k hp47) (oX4_3 hp47)   (pn_bipush rfl rfl   (pv_aload_n rfl rfl   (pv_iload_n rfl rfl   (pv_virt rfl rfl rfl rfl rfl (oX6_k ho) rfl rfl rfl (c_isGuarded (p := p) (o := o) (A := A) ho H.1 H.2.1 H.2.2.1 ) (pv_if_eq_dc rfl  (fun c1 => (pn_iconst rfl rfl   (pn_iast rfl (oX4_3c hp47) (by decide) (by decide)  (H.2.2.2.1 c1)))) (fun c1 => (pn_iconst rfl rfl   (pv_goto rfl (pn_iast rfl (oX4_3c hp47) (by decide) (by decide)  (H.2.2.2.2 c1))))))))))))
theorem w37_138 {X : gv_X} {d : Nat} {G : gv_Sh} {A : Nat → Nat → Nat} {j : Nat → Nat → Int64} {cc : gv_Rs} {P : gv_O × gv_S → Prop} {o : Nat} {p : Nat} {u : Nat} (hp47 : oX4 G 47) (ho : oX6 G o) (H : (p < 4294967296) ∧ ((A o 0 ≤ 8) ∧ ((∀ z, z < A o 0 → A (o + 5) z ≤ 1) ∧ (((¬ (p < A o 0 ∧ A (o + 5) p = 1)) → EvP X (d + 2) gvm_37 158 [some (.ref 47), some (.ref o), some (.int (nI p)), some (.int (nI u))] [] (G, (mI (gu A 62 8 0), j), cc) P) ∧ ((p < A o 0 ∧ A (o + 5) p = 1) → EvP X (d + 2) gvm_37 158 [some (.ref 47), some (.ref o), some (.int (nI p)), some (.int (nI u))] [] (G, (mI (gu A 62 8 1), j), cc) P))))) : EvP X (d + 2) gvm_37 138 [some (.ref 47), some (.ref o), some (.int (nI p)), some (.int (nI u))] [] (G, (mI A, j), cc) P :=
  (pv_aload_n rfl rfl   (pv_getP rfl rfl (oX4_k hp47) (oX4_3 hp47)   (pn_bipush rfl rfl   (pv_aload_n rfl rfl   (pv_iload_n rfl rfl   (pv_virt rfl rfl rfl rfl rfl (oX6_k ho) rfl rfl rfl (c_isPatched (p := p) (o := o) (A := A) ho H.1 H.2.1 H.2.2.1 ) (pv_if_eq_dc rfl  (fun c1 => (pn_iconst rfl rfl   (pn_iast rfl (oX4_3c hp47) (by decide) (by decide)  (H.2.2.2.1 c1)))) (fun c1 => (pn_iconst rfl rfl   (pv_goto rfl (pn_iast rfl (oX4_3c hp47) (by decide) (by decide)  (H.2.2.2.2 c1))))))))))))
theorem w37_158 {X : gv_X} {d : Nat} {G : gv_Sh} {A : Nat → Nat → Nat} {j : Nat → Nat → Int64} {cc : gv_Rs} {P : gv_O × gv_S → Prop} {o : Nat} {p : Nat} {u : Nat} (hp47 : oX4 G 47) (ho : oX6 G o) (H : EvP X (d + 2) gvm_37 185 [some (.ref 47), some (.ref o), some (.int (nI p)), some (.int (nI u))] [] (G, (mI (gu A 62 9 (((A 62 2) ||| (A 62 3)) ||| (A 62 4))), j), cc) P) : EvP X (d + 2) gvm_37 158 [some (.ref 47), some (.ref o), some (.int (nI p)), some (.int (nI u))] [] (G, (mI A, j), cc) P :=
  (pv_aload_n rfl rfl   (pv_getP rfl rfl (oX4_k hp47) (oX4_3 hp47)   (pn_bipush rfl rfl   (pv_aload_n rfl rfl   (pv_getP rfl rfl (oX4_k hp47) (oX4_3 hp47)   (pn_iconst rfl rfl   (pn_iald rfl (oX4_3c hp47) (by decide) (by decide) rfl (pv_aload_n rfl rfl   (pv_getP rfl rfl (oX4_k hp47) (oX4_3 hp47)   (pn_iconst rfl rfl   (pn_iald rfl (oX4_3c hp47) (by decide) (by decide) rfl (pn_ior rfl   (pv_aload_n rfl rfl   (pv_getP rfl rfl (oX4_k hp47) (oX4_3 hp47)   (pn_iconst rfl rfl   (pn_iald rfl (oX4_3c hp47) (by decide) (by decide) rfl (pn_ior rfl   (pn_iast rfl (oX4_3c hp47) (by decide) (by decide)  H))))))))))))))))))
theorem w37_185 {X : gv_X} {d : Nat} {G : gv_Sh} {A : Nat → Nat → Nat} {j : Nat → Nat → Int64} {cc : gv_Rs} {P : gv_O × gv_S → Prop} {o : Nat} {p : Nat} {u : Nat} (hp47 : oX4 G 47) (ho : oX6 G o) (H : P (.inl none, (G, (mI A, j), cc))) : EvP X (d + 2) gvm_37 185 [some (.ref 47), some (.ref o), some (.int (nI p)), some (.int (nI u))] [] (G, (mI A, j), cc) P :=
  (pv_vret rfl H)
theorem c_describe_p {X : gv_X} {d : Nat} {G : gv_Sh} {A : Nat → Nat → Nat} {j : Nat → Nat → Int64} {cc : gv_Rs} {P : gv_O × gv_S → Prop} {o : Nat} {p : Nat} {u : Nat} {R : Nat → Nat} (hp47 : oX4 G 47) (ho : oX6 G o) (p0 : okW R) (p1 : rO A o R) (p2 : p < R 0) (p3 : stT A R) (p4 : u = usN R p) (p5 : o + 6 ≤ 47) (hP : ∀ A1 : Nat → Nat → Nat, (sbj A1 R (tbF R p) p) ∧ (∀ a, a ≠ 62 → A1 a = A a) → P (.inl none, (G, (mI A1, j), cc))) : EvP X (d + 2) gvm_37 0 (gv_enter [.ref 47, .ref o, .int (nI p), .int (nI u)] 4) [] (G, (mI A, j), cc) P := by
  have n8 := (okW_n p0).1
  have hR0 : p < 8 := by omega
  have n0 := rO_n p1 p0
  have up : ∀ i B v, ((∀ a, a ≠ 62 → B a = A a) ∧ ∀ c, c < i → B 62 c = sbV R p c) → v = sbV R p i → ((∀ a, a ≠ 62 → (gu B 62 i v) a = A a) ∧ ∀ c, c < (i + 1) → (gu B 62 i v) 62 c = sbV R p c) := fun i B v h hv => ⟨fun a ha => by rw [gu_row ha]; exact h.1 a ha, fun c hc => by
    by_cases e : c = i
    · rw [e, gu_hit]; exact hv
    · rw [gu_k e rfl]; exact h.2 c (by omega)⟩
  have ro : ∀ i B, ((∀ a, a ≠ 62 → B a = A a) ∧ ∀ c, c < i → B 62 c = sbV R p c) → rO B o R := fun i B h => rO_fr p1 (fun a h1 h2 => h.1 a (by omega))
  have ws : ∀ x, x < 4 → A 56 (p * 4 + x) = wit R p x := fun x hx => p3 p x p2 hx
  have wl : ∀ x, wit R p x < 4294967296 := fun x => by have := wit_32 R p x; omega
  have s185 : ∀ B, ((∀ a, a ≠ 62 → B a = A a) ∧ ∀ c, c < 10 → B 62 c = sbV R p c) → EvP X (d + 2) gvm_37 185 [some (.ref 47), some (.ref o), some (.int (nI p)), some (.int (nI u))] [] (G, (mI B, j), cc) P := fun B h => w37_185 hp47 ho (hP B ⟨fun c n hc => by rw [h.2 c (by omega)]; exact sbV_eq R p c n hc, h.1⟩)
  have s158 : ∀ B, ((∀ a, a ≠ 62 → B a = A a) ∧ ∀ c, c < 9 → B 62 c = sbV R p c) → EvP X (d + 2) gvm_37 158 [some (.ref 47), some (.ref o), some (.int (nI p)), some (.int (nI u))] [] (G, (mI B, j), cc) P := fun B h => w37_158 hp47 ho (s185 _ (up 9 B _ h (by
    rw [h.2 2 (by omega), h.2 3 (by omega), h.2 4 (by omega)]
    show (if wit R p 0 = 4294967295 then 0 else 1) ||| (if wit R p 1 = 4294967295 then 0 else 1) ||| (if wit R p 2 = 4294967295 then 0 else 1) = (if wit R p 0 = 4294967295 ∧ wit R p 1 = 4294967295 ∧ wit R p 2 = 4294967295 then 0 else 1)
    by_cases h0 : wit R p 0 = 4294967295 <;> by_cases h1 : wit R p 1 = 4294967295 <;> by_cases h2 : wit R p 2 = 4294967295 <;> simp [h0, h1, h2])))
  have s138 : ∀ B, ((∀ a, a ≠ 62 → B a = A a) ∧ ∀ c, c < 8 → B 62 c = sbV R p c) → EvP X (d + 2) gvm_37 138 [some (.ref 47), some (.ref o), some (.int (nI p)), some (.int (nI u))] [] (G, (mI B, j), cc) P := fun B h => by
    have r := ro 8 B h
    have e := rO_pt r p2
    have b := (okW_o p0 hR0).2.2
    refine w37_138 hp47 ho ⟨by omega, rO_n r p0, rO_p r p0, fun c1 => s158 _ (up 8 B _ h ?_), fun c1 => s158 _ (up 8 B _ h ?_)⟩
    · show 0 = R (30 + 9 * p + 2)
      have := _root_.mt e.mpr c1; omega
    · exact (e.mp c1).symm
  have s118 : ∀ B, ((∀ a, a ≠ 62 → B a = A a) ∧ ∀ c, c < 7 → B 62 c = sbV R p c) → EvP X (d + 2) gvm_37 118 [some (.ref 47), some (.ref o), some (.int (nI p)), some (.int (nI u))] [] (G, (mI B, j), cc) P := fun B h => by
    have r := ro 7 B h
    have e := rO_gd r p2
    have b := (okW_o p0 hR0).2.1
    refine w37_118 hp47 ho ⟨by omega, rO_n r p0, rO_g r p0, fun c1 => s138 _ (up 7 B _ h ?_), fun c1 => s138 _ (up 7 B _ h ?_)⟩
    · show 0 = R (30 + 9 * p + 1)
      have := _root_.mt e.mpr c1; omega
    · exact (e.mp c1).symm
  have s110 : ∀ B, ((∀ a, a ≠ 62 → B a = A a) ∧ ∀ c, c < 6 → B 62 c = sbV R p c) → EvP X (d + 2) gvm_37 110 [some (.ref 47), some (.ref o), some (.int (nI p)), some (.int (nI u))] [] (G, (mI B, j), cc) P := fun B h => w37_110 hp47 ho (s118 _ (up 6 B _ h p4))
  have s87 : ∀ B, ((∀ a, a ≠ 62 → B a = A a) ∧ ∀ c, c < 5 → B 62 c = sbV R p c) → EvP X (d + 2) gvm_37 87 [some (.ref 47), some (.ref o), some (.int (nI p)), some (.int (nI u))] [] (G, (mI B, j), cc) P := fun B h => by
    have e : B 56 (p * 4 + 3) = wit R p 3 := by rw [h.1 56 (by decide)]; exact ws 3 (by decide)
    have l := wl 3
    refine w37_87 hp47 ho ?_
    rw [e]
    exact ⟨hR0, l, fun c1 => s110 _ (up 5 B _ h (if_pos (Decidable.not_not.mp c1)).symm), fun c1 => s110 _ (up 5 B _ h (if_neg c1).symm)⟩
  have s64 : ∀ B, ((∀ a, a ≠ 62 → B a = A a) ∧ ∀ c, c < 4 → B 62 c = sbV R p c) → EvP X (d + 2) gvm_37 64 [some (.ref 47), some (.ref o), some (.int (nI p)), some (.int (nI u))] [] (G, (mI B, j), cc) P := fun B h => by
    have e : B 56 (p * 4 + 2) = wit R p 2 := by rw [h.1 56 (by decide)]; exact ws 2 (by decide)
    have l := wl 2
    refine w37_64 hp47 ho ?_
    rw [e]
    exact ⟨hR0, l, fun c1 => s87 _ (up 4 B _ h (if_pos (Decidable.not_not.mp c1)).symm), fun c1 => s87 _ (up 4 B _ h (if_neg c1).symm)⟩
  have s41 : ∀ B, ((∀ a, a ≠ 62 → B a = A a) ∧ ∀ c, c < 3 → B 62 c = sbV R p c) → EvP X (d + 2) gvm_37 41 [some (.ref 47), some (.ref o), some (.int (nI p)), some (.int (nI u))] [] (G, (mI B, j), cc) P := fun B h => by
    have e : B 56 (p * 4 + 1) = wit R p 1 := by rw [h.1 56 (by decide)]; exact ws 1 (by decide)
    have l := wl 1
    refine w37_41 hp47 ho ?_
    rw [e]
    exact ⟨hR0, l, fun c1 => s64 _ (up 3 B _ h (if_pos (Decidable.not_not.mp c1)).symm), fun c1 => s64 _ (up 3 B _ h (if_neg c1).symm)⟩
  have s18 : ∀ B, ((∀ a, a ≠ 62 → B a = A a) ∧ ∀ c, c < 2 → B 62 c = sbV R p c) → EvP X (d + 2) gvm_37 18 [some (.ref 47), some (.ref o), some (.int (nI p)), some (.int (nI u))] [] (G, (mI B, j), cc) P := fun B h => by
    have e : B 56 (p * 4 + 0) = wit R p 0 := by rw [h.1 56 (by decide)]; exact ws 0 (by decide)
    have l := wl 0
    refine w37_18 hp47 ho ?_
    rw [e]
    exact ⟨hR0, l, fun c1 => s41 _ (up 2 B _ h (if_pos (Decidable.not_not.mp c1)).symm), fun c1 => s41 _ (up 2 B _ h (if_neg c1).symm)⟩
  have s7 : ∀ B, ((∀ a, a ≠ 62 → B a = A a) ∧ ∀ c, c < 1 → B 62 c = sbV R p c) → EvP X (d + 2) gvm_37 7 [some (.ref 47), some (.ref o), some (.int (nI p)), some (.int (nI u))] [] (G, (mI B, j), cc) P := fun B h => by
    have r := ro 1 B h
    exact w37_7 hp47 ho ⟨by omega, rO_n r p0, s18 _ (up 1 B _ h (rO_sz r p2))⟩
  exact w37 hp47 ho (s7 _ (up 0 A p ⟨fun _ _ => rfl, fun c hc => absurd hc (by omega)⟩ rfl))
theorem c_describe {X : gv_X} {d : Nat} {G : gv_Sh} {A : Nat → Nat → Nat} {j : Nat → Nat → Int64} {cc : gv_Rs} {o : Nat} {p : Nat} {u : Nat} {R : Nat → Nat} (hp47 : oX4 G 47) (ho : oX6 G o) (p0 : okW R) (p1 : rO A o R) (p2 : p < R 0) (p3 : stT A R) (p4 : u = usN R p) (p5 : o + 6 ≤ 47) : ∃ A1 : Nat → Nat → Nat, Ev X (d + 2) gvm_37 0 (gv_enter [.ref 47, .ref o, .int (nI p), .int (nI u)] 4) [] (G, (mI A, j), cc) (.inl none, (G, (mI A1, j), cc)) ∧ (sbj A1 R (tbF R p) p) ∧ (∀ a, a ≠ 62 → A1 a = A a) := by
  obtain ⟨_, h, A1, rfl, hp⟩ := c_describe_p (X := X) (d := d) (G := G) (A := A) (j := j) (cc := cc) (o := o) (p := p) (u := u) (R := R) (P := fun r => ∃ A1 : Nat → Nat → Nat, r = (.inl none, (G, (mI A1, j), cc)) ∧ (sbj A1 R (tbF R p) p) ∧ (∀ a, a ≠ 62 → A1 a = A a)) hp47 ho p0 p1 p2 p3 p4 p5 (fun A1 h => ⟨A1, rfl, h⟩)
  exact ⟨A1, h, hp⟩
theorem w36 {X : gv_X} {d : Nat} {G : gv_Sh} {A : Nat → Nat → Nat} {j : Nat → Nat → Int64} {cc : gv_Rs} {P : gv_O × gv_S → Prop} {w : Nat} {p : Nat} {so : Nat} (hp47 : oX4 G 47) (hw : oX10 G w) (H : (p < 4294967296) ∧ ((A w 2 ≤ 10) ∧ ((∀ k, k < A w 2 → A (w + 7) k < 4294967296) ∧ (EvP X (d + 3) gvm_36 5 [some (.ref 47), some (.ref w), some (.int (nI p)), some (.int (nI so)), none, none] [.int (nI (cntN (fun k => decide (A (w + 7) k = p)) (A w 2)))] (G, (mI A, j), cc) P)))) : EvP X (d + 3) gvm_36 0 (gv_enter [.ref 47, .ref w, .int (nI p), .int (nI so)] 6) [] (G, (mI A, j), cc) P :=
  (pv_aload_n rfl rfl   (pv_iload_n rfl rfl   (pv_virt rfl rfl rfl rfl rfl (oX10_k hw) rfl rfl rfl (c_usesOf (p := p) (w := w) (A := A) hw H.1 H.2.1 H.2.2.1 ) H.2.2.2)))
theorem w36_5 {X : gv_X} {d : Nat} {G : gv_Sh} {A : Nat → Nat → Nat} {j : Nat → Nat → Int64} {cc : gv_Rs} {P : gv_O × gv_S → Prop} {w : Nat} {p : Nat} {so : Nat} {s0 : Nat} (hp47 : oX4 G 47) (hw : oX10 G w) (H : (p < 4294967296) ∧ ((A (w + 1) 0 ≤ 8) ∧ (EvP X (d + 3) gvm_36 15 [some (.ref 47), some (.ref w), some (.int (nI p)), some (.int (nI so)), some (.int (nI s0)), none] [.int (zo (decide (p < A (w + 1) 0)))] (G, (mI A, j), cc) P))) : EvP X (d + 3) gvm_36 5 [some (.ref 47), some (.ref w), some (.int (nI p)), some (.int (nI so)), none, none] [.int (nI s0)] (G, (mI A, j), cc) P :=
  (pv_istore rfl rfl   (pv_aload_n rfl rfl   (pv_getP rfl rfl (oX10_k hw) (oX10_0 hw)   (pv_iload_n rfl rfl   (pv_virt rfl rfl rfl rfl rfl (oX6_k (oX10_0c hw)) rfl rfl rfl (c_has (p := p) (o := (w + 1)) (A := A) (oX10_0c hw) H.1 H.2.1 ) H.2.2)))))
theorem w36_15 {X : gv_X} {d : Nat} {G : gv_Sh} {A : Nat → Nat → Nat} {j : Nat → Nat → Int64} {cc : gv_Rs} {P : gv_O × gv_S → Prop} {w : Nat} {p : Nat} {so : Nat} {l4 : Nat} {s0 : Bool} {R : Nat → Nat} (hp47 : oX4 G 47) (hw : oX10 G w) (H : ((s0 = false) → P (.inl (some (.int (nI 0))), (G, (mI A, j), cc))) ∧ ((s0 = true) → (so < 4294967296) ∧ (((2147483648 ≤ so) → P (.inl (some (.int (nI 0))), (G, (mI A, j), cc))) ∧ ((so < 2147483648) → (so < 2147483648) ∧ (((2 < so) → P (.inl (some (.int (nI 0))), (G, (mI A, j), cc))) ∧ ((so ≤ 2) → (l4 < 4294967296) ∧ (((2147483648 ≤ l4) → P (.inl (some (.int (nI 0))), (G, (mI A, j), cc))) ∧ ((l4 < 2147483648) → (l4 < 2147483648) ∧ (((l4 ≤ 10) → (((((so * 8) + p) * 11) + l4) < 264) ∧ (((A 61 ((((so * 8) + p) * 11) + l4)) < 4294967296) ∧ (((¬ (A 61 ((((so * 8) + p) * 11) + l4)) = 4294967294) → (((((so * 8) + p) * 11) + l4) < 264) ∧ (P (.inl (some (.int (nI (A 61 ((((so * 8) + p) * 11) + l4))))), (G, (mI A, j), cc)))) ∧ (((A 61 ((((so * 8) + p) * 11) + l4)) = 4294967294) → (okW R) ∧ ((rO A (w + 1) R) ∧ ((p < R 0) ∧ ((stT A R) ∧ ((l4 = usN R p) ∧ (((w + 1) + 6 ≤ 47) ∧ ((∀ A1v1 : Nat → Nat → Nat, ((sbj A1v1 R (tbF R p) p) ∧ (∀ a, a ≠ 62 → A1v1 a = A a)) → (okW R) ∧ ((okLw R) ∧ ((p < 8) ∧ ((rRu A1v1 48 R) ∧ ((sbj A1v1 R (tbF R p) p) ∧ ((so < 3) ∧ ((∀ A1v2 : Nat → Nat → Nat, ((∀ a, a ≠ 63 → A1v2 a = A1v1 a)) → (((((so * 8) + p) * 11) + l4) < 264) ∧ ((((((so * 8) + p) * 11) + l4) < 264) ∧ (P (.inl (some (.int (nI (lsum R (tbF R p) p so)))), (G, (mI (gu A1v2 61 ((((so * 8) + p) * 11) + l4) (lsum R (tbF R p) p so)), j), cc)))))))))))))))))))))) ∧ ((10 < l4) → P (.inl (some (.int (nI 0))), (G, (mI A, j), cc)))))))))))) : EvP X (d + 3) gvm_36 15 [some (.ref 47), some (.ref w), some (.int (nI p)), some (.int (nI so)), some (.int (nI l4)), none] [.int (zo s0)] (G, (mI A, j), cc) P :=
  (pv_if_eq_zo rfl  (fun c1 => (pn_iconst rfl rfl   (pv_ireti rfl rfl (H.1 c1)))) (fun c1 => (pv_iload_n rfl rfl   (pn_if_lt rfl (H.2 c1).1 (fun c2 => (pn_iconst rfl rfl   (pv_ireti rfl rfl ((H.2 c1).2.1 c2)))) (fun c2 => (pv_iload_n rfl rfl   (pn_iconst rfl rfl   (pn_ic_gt rfl ((H.2 c1).2.2 c2).1 (by decide) (fun c3 => (pn_iconst rfl rfl   (pv_ireti rfl rfl (((H.2 c1).2.2 c2).2.1 c3)))) (fun c3 => (pv_iload rfl rfl   (pn_if_lt rfl (((H.2 c1).2.2 c2).2.2 c3).1 (fun c4 => (pn_iconst rfl rfl   (pv_ireti rfl rfl ((((H.2 c1).2.2 c2).2.2 c3).2.1 c4)))) (fun c4 => (pv_iload rfl rfl   (pn_bipush rfl rfl   (pn_ic_le rfl ((((H.2 c1).2.2 c2).2.2 c3).2.2 c4).1 (by decide) (fun c5 => (pv_iload_n rfl rfl   (pn_bipush rfl rfl   (pn_imul rfl   (pv_iload_n rfl rfl   (pn_iadd rfl   (pn_bipush rfl rfl   (pn_imul rfl   (pv_iload rfl rfl   (pn_iadd rfl   (pv_istore rfl rfl   (pv_aload_n rfl rfl   (pv_getP rfl rfl (oX4_k hp47) (oX4_2 hp47)   (pv_iload rfl rfl   (pn_iald rfl (oX4_2c hp47) (by decide) (((((H.2 c1).2.2 c2).2.2 c3).2.2 c4).2.1 c5).1 rfl (pn_bipush (u := 4294967294) rfl (by decide)   (pn_ic_ne rfl (((((H.2 c1).2.2 c2).2.2 c3).2.2 c4).2.1 c5).2.1 (by decide) (fun c6 => (pv_aload_n rfl rfl   (pv_getP rfl rfl (oX4_k hp47) (oX4_2 hp47)   (pv_iload rfl rfl   (pn_iald rfl (oX4_2c hp47) (by decide) ((((((H.2 c1).2.2 c2).2.2 c3).2.2 c4).2.1 c5).2.2.1 c6).1 rfl (pv_ireti rfl rfl ((((((H.2 c1).2.2 c2).2.2 c3).2.2 c4).2.1 c5).2.2.1 c6).2)))))) (fun c6 => (pv_aload_n rfl rfl   (pv_aload_n rfl rfl   (pv_getP rfl rfl (oX10_k hw) (oX10_0 hw)   (pv_iload_n rfl rfl   (pv_iload rfl rfl   (match (c_describe (p := p) (u := l4) (R := R) (o := (w + 1)) (A := A) (X := X) (d := d + 0) (G := G) (j := j) (cc := cc) hp47 (oX10_0c hw) ((((((H.2 c1).2.2 c2).2.2 c3).2.2 c4).2.1 c5).2.2.2 c6).1 ((((((H.2 c1).2.2 c2).2.2 c3).2.2 c4).2.1 c5).2.2.2 c6).2.1 ((((((H.2 c1).2.2 c2).2.2 c3).2.2 c4).2.1 c5).2.2.2 c6).2.2.1 ((((((H.2 c1).2.2 c2).2.2 c3).2.2 c4).2.1 c5).2.2.2 c6).2.2.2.1 ((((((H.2 c1).2.2 c2).2.2 c3).2.2 c4).2.1 c5).2.2.2 c6).2.2.2.2.1 ((((((H.2 c1).2.2 c2).2.2 c3).2.2 c4).2.1 c5).2.2.2 c6).2.2.2.2.2.1 ) with | ⟨A1v1, e2x75, h7⟩ => pv_virt rfl rfl rfl rfl rfl (oX4_k hp47) rfl rfl rfl e2x75 (pv_aload_n rfl rfl   (pv_getP rfl rfl (oX4_k hp47) (oX4_2 hp47)   (pv_iload rfl rfl   (pv_aload_n rfl rfl   (pv_getP rfl rfl (oX4_k hp47) (oX4_0 hp47)   (pv_iload_n rfl rfl   (pv_aload_n rfl rfl   (pv_getP rfl rfl (oX4_k hp47) (oX4_3 hp47)   (pv_aload_n rfl rfl   (pv_getP rfl rfl (oX4_k hp47) (oX4_4 hp47)   (match (c_sum (so := so) (R := R) (t := (tbF R p)) (p := p) (A := A1v1) (X := X) (d := d + 0) (G := G) (j := j) (cc := cc) (oX4_0c hp47) (oX4_3c hp47) (oX4_4c hp47) (((((((H.2 c1).2.2 c2).2.2 c3).2.2 c4).2.1 c5).2.2.2 c6).2.2.2.2.2.2 A1v1 h7).1 (((((((H.2 c1).2.2 c2).2.2 c3).2.2 c4).2.1 c5).2.2.2 c6).2.2.2.2.2.2 A1v1 h7).2.1 (((((((H.2 c1).2.2 c2).2.2 c3).2.2 c4).2.1 c5).2.2.2 c6).2.2.2.2.2.2 A1v1 h7).2.2.1 (((((((H.2 c1).2.2 c2).2.2 c3).2.2 c4).2.1 c5).2.2.2 c6).2.2.2.2.2.2 A1v1 h7).2.2.2.1 (((((((H.2 c1).2.2 c2).2.2 c3).2.2 c4).2.1 c5).2.2.2 c6).2.2.2.2.2.2 A1v1 h7).2.2.2.2.1 (((((((H.2 c1).2.2 c2).2.2 c3).2.2 c4).2.1 c5).2.2.2 c6).2.2.2.2.2.2 A1v1 h7).2.2.2.2.2.1 ) with | ⟨A1v2, e2x97, h8⟩ => pv_virt rfl rfl rfl rfl rfl (oX8_k (oX4_0c hp47)) rfl rfl rfl e2x97 (pn_iast rfl (oX4_2c hp47) (by decide) ((((((((H.2 c1).2.2 c2).2.2 c3).2.2 c4).2.1 c5).2.2.2 c6).2.2.2.2.2.2 A1v1 h7).2.2.2.2.2.2 A1v2 h8).1  (pv_aload_n rfl rfl   (pv_getP rfl rfl (oX4_k hp47) (oX4_2 hp47)   (pv_iload rfl rfl   (pn_iald rfl (oX4_2c hp47) (by decide) ((((((((H.2 c1).2.2 c2).2.2 c3).2.2 c4).2.1 c5).2.2.2 c6).2.2.2.2.2.2 A1v1 h7).2.2.2.2.2.2 A1v2 h8).2.1 (gu_hit _ _ _ _) (pv_ireti rfl rfl ((((((((H.2 c1).2.2 c2).2.2 c3).2.2 c4).2.1 c5).2.2.2 c6).2.2.2.2.2.2 A1v1 h7).2.2.2.2.2.2 A1v2 h8).2.2))))))))))))))))))))))))))))))))))))))))) (fun c5 => (pn_iconst rfl rfl   (pv_ireti rfl rfl (((((H.2 c1).2.2 c2).2.2 c3).2.2 c4).2.2 c5)))))))))))))))))))
theorem c_lsum_p {X : gv_X} {d : Nat} {G : gv_Sh} {A : Nat → Nat → Nat} {j : Nat → Nat → Int64} {cc : gv_Rs} {P : gv_O × gv_S → Prop} {w : Nat} {p : Nat} {so : Nat} {R : Nat → Nat} (hp47 : oX4 G 47) (hw : oX10 G w) (p0 : okW R) (p1 : rO A (w + 1) R) (p2 : rP A w R) (p3 : okLw R) (p4 : rRu A 48 R) (p5 : stT A R) (p6 : smI A R) (p7 : p < R 0) (p8 : so < 3) (p9 : w + 15 ≤ 47) (hP : ∀ A1 : Nat → Nat → Nat, (smI A1 R) ∧ (∀ a, (a < 61 ∨ 63 < a) → A1 a = A a) → P (.inl (some (.int (nI (lsum R (tbF R p) p so)))), (G, (mI A1, j), cc))) : EvP X (d + 3) gvm_36 0 (gv_enter [.ref 47, .ref w, .int (nI p), .int (nI so)] 6) [] (G, (mI A, j), cc) P := by
  have n8 := (okW_n p0).1
  have pb := rP_b p2 p0
  have us := usN_le p0 p
  refine w36 hp47 hw ⟨by omega, pb.1, pb.2, ?_⟩
  rw [rP_us p2 p]
  refine w36_5 hp47 hw ⟨by omega, rO_n p1 p0, ?_⟩
  have hp1 : p < A (w + 1) 0 := by rw [p1.1]; exact p7
  have si := p6 so p (usN R p) p8 (by omega) us
  have ll := lsum_le (t := tbF R p) (p := p) (w := so) p3
  refine w36_15 (R := R) hp47 hw ⟨fun c1 => absurd hp1 (of_decide_eq_false c1), fun c1 => ⟨by omega, fun c2 => absurd c2 (by omega), fun c2 => ⟨by omega, fun c3 => absurd c3 (by omega), fun c3 => ⟨by omega, fun c4 => absurd c4 (by omega), fun c4 => ⟨by omega, fun c5 => ⟨by omega, ?_, fun c6 => ⟨by omega, ?_⟩, fun c6 => ⟨p0, p1, p7, p5, rfl, by omega, fun B h7 => ⟨p0, p3, by omega, ?_, h7.1, p8, fun C h8 => ⟨by omega, by omega, ?_⟩⟩⟩⟩, fun c5 => absurd c5 (by omega)⟩⟩⟩⟩⟩
  · rcases si with z | ⟨_, z⟩
    · omega
    · rw [z R (eqS_rf R) rfl]; omega
  · rcases si with z | ⟨_, z⟩
    · exact absurd z c6
    · exact qn (hP A ⟨p6, fun _ _ => rfl⟩) (z R (eqS_rf R) rfl).symm
  · exact rRu_of p4 (fun a h1 h2 => h7.2 a (by omega))
  · refine hP _ ⟨fun so' p' u' a b c => ?_, fun a ha => ?_⟩
    · by_cases e : (so' * 8 + p') * 11 + u' = (so * 8 + p) * 11 + usN R p
      · have e1 : so' * 8 + p' = so * 8 + p := by omega
        have e2 : u' = usN R p := by omega
        have e3 : so' = so := by omega
        have e4 : p' = p := by omega
        rw [e2, e3, e4, gu_hit]
        exact Or.inr ⟨p7, fun S h1 h2 => (lsum_S h1 (by omega) h2 _ _).symm⟩
      · rw [gu_k e rfl, h8 61 (by decide), h7.2 61 (by decide)]
        exact p6 so' p' u' a b c
    · rw [gu_row (by omega), h8 a (by omega), h7.2 a (by omega)]
theorem c_lsum {X : gv_X} {d : Nat} {G : gv_Sh} {A : Nat → Nat → Nat} {j : Nat → Nat → Int64} {cc : gv_Rs} {w : Nat} {p : Nat} {so : Nat} {R : Nat → Nat} (hp47 : oX4 G 47) (hw : oX10 G w) (p0 : okW R) (p1 : rO A (w + 1) R) (p2 : rP A w R) (p3 : okLw R) (p4 : rRu A 48 R) (p5 : stT A R) (p6 : smI A R) (p7 : p < R 0) (p8 : so < 3) (p9 : w + 15 ≤ 47) : ∃ A1 : Nat → Nat → Nat, Ev X (d + 3) gvm_36 0 (gv_enter [.ref 47, .ref w, .int (nI p), .int (nI so)] 6) [] (G, (mI A, j), cc) (.inl (some (.int (nI (lsum R (tbF R p) p so)))), (G, (mI A1, j), cc)) ∧ (smI A1 R) ∧ (∀ a, (a < 61 ∨ 63 < a) → A1 a = A a) := by
  obtain ⟨_, h, A1, rfl, hp⟩ := c_lsum_p (X := X) (d := d) (G := G) (A := A) (j := j) (cc := cc) (w := w) (p := p) (so := so) (R := R) (P := fun r => ∃ A1 : Nat → Nat → Nat, r = (.inl (some (.int (nI (lsum R (tbF R p) p so)))), (G, (mI A1, j), cc)) ∧ (smI A1 R) ∧ (∀ a, (a < 61 ∨ 63 < a) → A1 a = A a)) hp47 hw p0 p1 p2 p3 p4 p5 p6 p7 p8 p9 (fun A1 h => ⟨A1, rfl, h⟩)
  exact ⟨A1, h, hp⟩
