/-! the class: settings, cells, programs of a bench -/
theorem rW_p {A C : Nat → Nat → Nat} {w : Nat} {R S : Nat → Nat} (h : rW A w R) (o : okW R) (e : ∀ i, i ≠ 3 → ¬ (12 ≤ i ∧ i < 22) → S i = R i) (f : ∀ q, w < q → q ≤ w + 14 → q ≠ w + 7 → C q = A q) (g : ∀ k, k ≠ 2 → C w k = A w k) (p : rP C w S) : rW C w S := by
  have m := okW_n o
  obtain ⟨a1, a2, a3, a4, a5, a6, a7⟩ := h
  refine ⟨rO_X (rO_fr a1 (fun a x y => f a (by omega) (by omega) (by omega))) o (fun i hi => e i (by omega) (by omega)), p, fun k hk => ?_, ?_, rC_R (rC_of a5 (f _ (by omega) (by omega) (by omega)) (f _ (by omega) (by omega) (by omega))) (fun i hi => e _ (by omega) (by omega)), rC_R (rC_of a6 (f _ (by omega) (by omega) (by omega)) (f _ (by omega) (by omega) (by omega))) (fun i hi => e _ (by omega) (by omega)), rL_R (rL_of a7 (f _ (by omega) (by omega) (by omega)) (f _ (by omega) (by omega) (by omega))) m.2.2.2.2.2.2.2.2.2.2.2.1 (fun i hi => e i (by omega) (by omega))⟩
  · rw [f (w + 8) (by omega) (by omega) (by omega), e (22 + k) (by omega) (by omega)]; exact a3 k hk
  · unfold rN
    rw [g 4 (by omega), g 5 (by omega), g 6 (by omega), g 7 (by omega), g 8 (by omega), g 9 (by omega), g 10 (by omega), g 11 (by omega), e 4 (by omega) (by omega), e 5 (by omega) (by omega), e 6 (by omega) (by omega), e 7 (by omega) (by omega), e 8 (by omega) (by omega), e 9 (by omega) (by omega), e 11 (by omega) (by omega), e 1 (by omega) (by omega)]
    exact a4
theorem rW_cw {A C : Nat → Nat → Nat} {w : Nat} {R S : Nat → Nat} (h : rW A w R) (o : okW R) (e : ∀ i, ¬ (22 ≤ i ∧ i < 30) → S i = R i) (f : ∀ q, w ≤ q → q ≤ w + 14 → q ≠ w + 8 → C q = A q) (p : ∀ k, k < 8 → C (w + 8) k = S (22 + k)) : rW C w S := by
  have m := okW_n o
  obtain ⟨a1, a2, a3, a4, a5, a6, a7⟩ := h
  refine ⟨rO_X (rO_fr a1 (fun a x y => f a (by omega) (by omega) (by omega))) o (fun i hi => e i (by omega)), rP_R (rP_of a2 (by rw [f w (by omega) (by omega) (by omega)]) (f _ (by omega) (by omega) (by omega))) m.2.2.2.1 (fun i hi => e i (by omega)), p, ?_, rC_R (rC_of a5 (f _ (by omega) (by omega) (by omega)) (f _ (by omega) (by omega) (by omega))) (fun i hi => e _ (by omega)), rC_R (rC_of a6 (f _ (by omega) (by omega) (by omega)) (f _ (by omega) (by omega) (by omega))) (fun i hi => e _ (by omega)), rL_R (rL_of a7 (f _ (by omega) (by omega) (by omega)) (f _ (by omega) (by omega) (by omega))) m.2.2.2.2.2.2.2.2.2.2.2.1 (fun i hi => e i (by omega))⟩
  unfold rN
  rw [f w (by omega) (by omega) (by omega), e 4 (by omega), e 5 (by omega), e 6 (by omega), e 7 (by omega), e 8 (by omega), e 9 (by omega), e 11 (by omega), e 1 (by omega)]
  exact a4
theorem rW_nw {A C : Nat → Nat → Nat} {w : Nat} {R S : Nat → Nat} (h : rW A w R) (o : okW R) (e : ∀ i, (i = 0 ∨ i = 3 ∨ i = 10 ∨ 12 ≤ i) → S i = R i) (f : ∀ q, w < q → q ≤ w + 14 → C q = A q) (g : C w 2 = A w 2) (p : rN C w S) : rW C w S := by
  have m := okW_n o
  obtain ⟨a1, a2, a3, a4, a5, a6, a7⟩ := h
  exact ⟨rO_X (rO_fr a1 (fun a x y => f a (by omega) (by omega))) o (fun i hi => e i (by omega)), rP_R (rP_of a2 g (f _ (by omega) (by omega))) m.2.2.2.1 (fun i hi => e i (by omega)), fun k hk => by rw [f (w + 8) (by omega) (by omega), e (22 + k) (by omega)]; exact a3 k hk, p, rC_R (rC_of a5 (f _ (by omega) (by omega)) (f _ (by omega) (by omega))) (fun i hi => e _ (by omega)), rC_R (rC_of a6 (f _ (by omega) (by omega)) (f _ (by omega) (by omega))) (fun i hi => e _ (by omega)), rL_R (rL_of a7 (f _ (by omega) (by omega)) (f _ (by omega) (by omega))) m.2.2.2.2.2.2.2.2.2.2.2.1 (fun i hi => e i (by omega))⟩
theorem rW_ow {A C : Nat → Nat → Nat} {w : Nat} {R S : Nat → Nat} (h : rW A w R) (o : okW R) (e : ∀ i, i ≠ 0 → ¬ (30 ≤ i ∧ i < 102) → S i = R i) (f : ∀ q, w ≤ q → q ≤ w + 14 → ¬ (w + 1 ≤ q ∧ q ≤ w + 6) → C q = A q) (p : rO C (w + 1) S) : rW C w S := by
  have m := okW_n o
  obtain ⟨a1, a2, a3, a4, a5, a6, a7⟩ := h
  refine ⟨p, rP_R (rP_of a2 (by rw [f w (by omega) (by omega) (by omega)]) (f _ (by omega) (by omega) (by omega))) m.2.2.2.1 (fun i hi => e i (by omega) (by omega)), fun k hk => by rw [f (w + 8) (by omega) (by omega) (by omega), e (22 + k) (by omega) (by omega)]; exact a3 k hk, ?_, rC_R (rC_of a5 (f _ (by omega) (by omega) (by omega)) (f _ (by omega) (by omega) (by omega))) (fun i hi => e _ (by omega) (by omega)), rC_R (rC_of a6 (f _ (by omega) (by omega) (by omega)) (f _ (by omega) (by omega) (by omega))) (fun i hi => e _ (by omega) (by omega)), rL_R (rL_of a7 (f _ (by omega) (by omega) (by omega)) (f _ (by omega) (by omega) (by omega))) m.2.2.2.2.2.2.2.2.2.2.2.1 (fun i hi => e i (by omega) (by omega))⟩
  unfold rN
  rw [f w (by omega) (by omega) (by omega), e 4 (by omega) (by omega), e 5 (by omega) (by omega), e 6 (by omega) (by omega), e 7 (by omega) (by omega), e 8 (by omega) (by omega), e 9 (by omega) (by omega), e 11 (by omega) (by omega), e 1 (by omega) (by omega)]
  exact a4
theorem skB_id {t : Nat → Nat} {E i : Nat} (h : i ≤ E) : skB t E (skB t E i) = skB t E i := skp_e (skp_d rfl h) (skB_b h).2
theorem kI_sk {A : Nat → Nat → Nat} {t : Nat → Nat} {E i k : Nat} (h : kI A t E i) (e : skB t E k = skB t E i) (hk : k ≤ E) : kI A t E k := by
  have e1 : tkE t E k = tkE t E i := by unfold tkE; rw [e]
  have e2 : tkK t E k = tkK t E i := by unfold tkK; rw [e]
  unfold kI
  rw [e, e1, e2]
  exact ⟨h.1, hk, h.2.2⟩
theorem nnB_sk {t : Nat → Nat} {E i : Nat} (h : i ≤ E) : nnB t E (skB t E i) = nnB t E i := by unfold nnB; rw [skB_id h]
theorem ref_k {B C : Nat → Nat → Nat} {t : Nat → Nat} {E i : Nat} (h : kI B t E i) (e : C = gu B 258 3 (B 258 4)) : tI C t E ∧ C 258 3 = skB t E i ∧ ∀ q, q ≠ 258 → C q = B q := by
  subst e
  exact ⟨tI_of h.1 (gu_k (by decide) rfl) (gu_row (by decide)), by rw [gu_hit]; exact h.2.2.1, fun q hq => gu_row hq⟩
/-- a line may end here -/
def edB (t : Nat → Nat) (E i : Nat) : Prop := skB t E i = E ∨ t (skB t E i) = 59
def frD (A B : Nat → Nat → Nat) : Prop := ∀ q, ¬ (17 ≤ q ∧ q ≤ 31) → q ≠ 258 → B q = A q
theorem frD_rf (A : Nat → Nat → Nat) : frD A A := fun _ _ _ => rfl
theorem frD_tr {A B C : Nat → Nat → Nat} (h : frD A B) (h2 : frD B C) : frD A C := fun q a b => (h2 q a b).trans (h q a b)
/-- what a reading comes to, as the reference has it -/
def bkP (A B : Nat → Nat → Nat) (t : Nat → Nat) (E : Nat) (b : Bool) (r : PR) : Prop := (b = true → ∃ k, kI B t E k ∧ B 258 3 = A 258 3 ∧ ((r.1 = true ∧ skB t E k = skB t E r.2.2.1 ∧ rW B 17 r.2.1) ∨ (r.1 = false ∧ ¬ edB t E k ∧ skB t E k = r.2.2.2))) ∧ (b = false → tI B t E ∧ ((r.1 = false ∧ B 258 3 = r.2.2.2) ∨ (r.1 = true ∧ ¬ edB t E r.2.2.1 ∧ B 258 3 = skB t E r.2.2.1))) ∧ frD A B
theorem bkP_t {A B : Nat → Nat → Nat} {t : Nat → Nat} {E k : Nat} {r : PR} (h : kI B t E k) (h3 : B 258 3 = A 258 3) (r1 : r.1 = true) (r2 : skB t E k = skB t E r.2.2.1) (w : rW B 17 r.2.1) (f : frD A B) : bkP A B t E true r := ⟨fun _ => ⟨k, h, h3, Or.inl ⟨r1, r2, w⟩⟩, fun z => (by cases z), f⟩
theorem bkP_u {A B : Nat → Nat → Nat} {t : Nat → Nat} {E k : Nat} {r : PR} (h : kI B t E k) (h3 : B 258 3 = A 258 3) (r1 : r.1 = false) (r2 : skB t E k = r.2.2.2) (w : ¬ edB t E k) (f : frD A B) : bkP A B t E true r := ⟨fun _ => ⟨k, h, h3, Or.inr ⟨r1, w, r2⟩⟩, fun z => (by cases z), f⟩
theorem bkP_f {A B : Nat → Nat → Nat} {t : Nat → Nat} {E : Nat} {r : PR} (h : tI B t E) (r1 : r.1 = false) (h3 : B 258 3 = r.2.2.2) (f : frD A B) : bkP A B t E false r := ⟨fun z => (by cases z), fun _ => ⟨h, Or.inl ⟨r1, h3⟩⟩, f⟩
theorem bkP_g {A B : Nat → Nat → Nat} {t : Nat → Nat} {E : Nat} {r : PR} (h : tI B t E) (r1 : r.1 = true) (r2 : ¬ edB t E r.2.2.1) (h3 : B 258 3 = skB t E r.2.2.1) (f : frD A B) : bkP A B t E false r := ⟨fun z => (by cases z), fun _ => ⟨h, Or.inr ⟨r1, r2, h3⟩⟩, f⟩
theorem ed_k {t : Nat → Nat} {E i : Nat} (h : tkK t E i = 1 ∨ tkK t E i = 2) : ¬ edB t E i := by
  unfold tkK at h
  rintro (z | z)
  · rw [if_pos z] at h; rcases h with h | h <;> cases h
  · by_cases y : skB t E i = E
    · rw [if_pos y] at h; rcases h with h | h <;> cases h
    · rw [if_neg y, if_neg (by omega), if_neg (by omega)] at h; rcases h with h | h <;> cases h
def hiN (w : Nat) : Nat := if w = 3 then 9 else if w = 4 then 3 else if w = 5 then 7 else if w = 6 then 100 else 999
def adN (w : Nat) : Nat := if w = 3 then 4 else if w = 5 then 6 else if w = 6 then 7 else 9
def stS (t : Nat → Nat) (E : Nat) (R : Nat → Nat) (i w : Nat) : PR := if w = 4 then shS t E R i else rnS t E R i (adN w) (hiN w)
theorem hiN_le (w : Nat) : hiN w ≤ 999 := by unfold hiN; (repeat' split) <;> omega
theorem nd_t {n : Nat} (h : (!decide (n = 4294967295)) = true) : n ≠ 4294967295 := by
  intro z; rw [decide_eq_true z] at h; cases h
theorem nd_f {n : Nat} (h : (!decide (n = 4294967295)) = false) : n = 4294967295 := by
  by_cases z : n = 4294967295
  · exact z
  · rw [decide_eq_false z] at h; cases h
theorem rnS_t {t R : Nat → Nat} {E i a m : Nat} (h : nmV t E i m ≠ 4294967295) : rnS t E R i a m = (true, seR R a (nmV t E i m), nmE t E i, skB t E i) := by
  unfold rnS; rw [decide_eq_false h, if_neg h]; rfl
theorem rnS_f {t R : Nat → Nat} {E i a m : Nat} (h : nmV t E i m = 4294967295) : rnS t E R i a m = (false, R, nmE t E i, skB t E i) := by
  unfold rnS; rw [decide_eq_true h, if_pos h]; rfl
theorem shS_t {t R : Nat → Nat} {E i : Nat} (h : nmV t E i 3 ≠ 4294967295) : shS t E R i = (true, seR R 5 (2 * nmV t E i 3), nmE t E i, skB t E i) := by
  unfold shS; rw [decide_eq_false h, if_neg h, Nat.mul_comm]; rfl
theorem shS_f {t R : Nat → Nat} {E i : Nat} (h : nmV t E i 3 = 4294967295) : shS t E R i = (false, R, nmE t E i, skB t E i) := by
  unfold shS; rw [decide_eq_true h, if_pos h]; rfl
theorem w8 {X : gv_X} {d : Nat} {G : gv_Sh} {A : Nat → Nat → Nat} {j : Nat → Nat → Int64} {cc : gv_Rs} {P : gv_O × gv_S → Prop} {w : Nat} (hp260 : oX0 G 260) (H : (w < 4294967296) ∧ ((w = 3 → P (.inl (some (.int (nI 9))), (G, (mI A, j), cc))) ∧ (w = 4 → P (.inl (some (.int (nI 3))), (G, (mI A, j), cc))) ∧ (w = 5 → P (.inl (some (.int (nI 7))), (G, (mI A, j), cc))) ∧ (w = 6 → P (.inl (some (.int (nI 100))), (G, (mI A, j), cc))) ∧ ((w < 3 ∨ 6 < w) → P (.inl (some (.int (nI 999))), (G, (mI A, j), cc))))) : EvP X (d + 0) gvm_8 0 (gv_enter [.ref 260, .int (nI w)] 2) [] (G, (mI A, j), cc) P :=
  (pv_iload_n rfl rfl   (Or.elim (Decidable.em (w = 3)) (fun c1e => (pn_tswl 3 32 rfl c1e (by decide) (by decide) rfl rfl (pn_bipush rfl rfl   (pv_ireti rfl rfl (H.2.1 c1e))))) (fun c1n0 => (Or.elim (Decidable.em (w = 4)) (fun c1e => (pn_tswl 4 35 rfl c1e (by decide) (by decide) rfl rfl (pn_iconst rfl rfl   (pv_ireti rfl rfl (H.2.2.1 c1e))))) (fun c1n1 => (Or.elim (Decidable.em (w = 5)) (fun c1e => (pn_tswl 5 37 rfl c1e (by decide) (by decide) rfl rfl (pn_bipush rfl rfl   (pv_ireti rfl rfl (H.2.2.2.1 c1e))))) (fun c1n2 => (Or.elim (Decidable.em (w = 6)) (fun c1e => (pn_tswl 6 40 rfl c1e (by decide) (by decide) rfl rfl (pn_bipush rfl rfl   (pv_ireti rfl rfl (H.2.2.2.2.1 c1e))))) (fun c1n3 => (have c1d : w < 3 ∨ 6 < w := (by omega); pn_tswlD 3 6 43 rfl rfl rfl (by decide) H.1 c1d rfl (pn_sipush rfl rfl   (pv_ireti rfl rfl (H.2.2.2.2.2 c1d)))))))))))))
theorem c_highest_p {X : gv_X} {d : Nat} {G : gv_Sh} {A : Nat → Nat → Nat} {j : Nat → Nat → Int64} {cc : gv_Rs} {P : gv_O × gv_S → Prop} {w : Nat} (hp260 : oX0 G 260) (p0 : w ≤ 7) (hP : P (.inl (some (.int (nI (hiN w)))), (G, (mI A, j), cc))) : EvP X (d + 0) gvm_8 0 (gv_enter [.ref 260, .int (nI w)] 2) [] (G, (mI A, j), cc) P := by
  refine w8 hp260 ⟨by omega, fun c => qn hP (by subst c; rfl), fun c => qn hP (by subst c; rfl), fun c => qn hP (by subst c; rfl), fun c => qn hP (by subst c; rfl), fun c => qn hP ?_⟩
  unfold hiN
  rw [if_neg (by omega), if_neg (by omega), if_neg (by omega), if_neg (by omega)]
theorem c_highest {X : gv_X} {d : Nat} {G : gv_Sh} {A : Nat → Nat → Nat} {j : Nat → Nat → Int64} {cc : gv_Rs} {w : Nat} (hp260 : oX0 G 260) (p0 : w ≤ 7) : Ev X (d + 0) gvm_8 0 (gv_enter [.ref 260, .int (nI w)] 2) [] (G, (mI A, j), cc) (.inl (some (.int (nI (hiN w)))), (G, (mI A, j), cc)) := evp_det (c_highest_p hp260 p0 rfl)
theorem w7 {X : gv_X} {d : Nat} {G : gv_Sh} {A : Nat → Nat → Nat} {j : Nat → Nat → Int64} {cc : gv_Rs} {P : gv_O × gv_S → Prop} {w : Nat} {t : Nat → Nat} {E : Nat} {i : Nat} (hp260 : oX0 G 260) (H : (w ≤ 7) ∧ ((kI A t E i) ∧ (((hiN w) < 4294967296) ∧ ((((!decide (nmV t E i (hiN w) = 4294967295)) = true) → (w < 4294967296) ∧ ((w = 3 → (tI (gu A 17 4 (A 258 6)) t E) ∧ ((A 258 2 = (tkE t E i)) ∧ (((tkE t E i) ≤ E) ∧ ((∀ A1v3 : Nat → Nat → Nat, ((kI A1v3 t E (tkE t E i)) ∧ (frR (gu A 17 4 (A 258 6)) A1v3)) → P (.inl (some (.int (nI 1))), (G, (mI A1v3, j), cc))))))) ∧ (w = 4 → (tI (gu A 17 5 (2 * (A 258 6))) t E) ∧ ((A 258 2 = (tkE t E i)) ∧ (((tkE t E i) ≤ E) ∧ ((∀ A1v4 : Nat → Nat → Nat, ((kI A1v4 t E (tkE t E i)) ∧ (frR (gu A 17 5 (2 * (A 258 6))) A1v4)) → P (.inl (some (.int (nI 1))), (G, (mI A1v4, j), cc))))))) ∧ (w = 5 → (tI (gu A 17 6 (A 258 6)) t E) ∧ ((A 258 2 = (tkE t E i)) ∧ (((tkE t E i) ≤ E) ∧ ((∀ A1v5 : Nat → Nat → Nat, ((kI A1v5 t E (tkE t E i)) ∧ (frR (gu A 17 6 (A 258 6)) A1v5)) → P (.inl (some (.int (nI 1))), (G, (mI A1v5, j), cc))))))) ∧ (w = 6 → (tI (gu A 17 7 (A 258 6)) t E) ∧ ((A 258 2 = (tkE t E i)) ∧ (((tkE t E i) ≤ E) ∧ ((∀ A1v6 : Nat → Nat → Nat, ((kI A1v6 t E (tkE t E i)) ∧ (frR (gu A 17 7 (A 258 6)) A1v6)) → P (.inl (some (.int (nI 1))), (G, (mI A1v6, j), cc))))))) ∧ ((w < 3 ∨ 6 < w) → (tI (gu A 17 9 (A 258 6)) t E) ∧ ((A 258 2 = (tkE t E i)) ∧ (((tkE t E i) ≤ E) ∧ ((∀ A1v7 : Nat → Nat → Nat, ((kI A1v7 t E (tkE t E i)) ∧ (frR (gu A 17 9 (A 258 6)) A1v7)) → P (.inl (some (.int (nI 1))), (G, (mI A1v7, j), cc))))))))) ∧ (((!decide (nmV t E i (hiN w) = 4294967295)) = false) → (∀ A8 : Nat → Nat → Nat, A8 = (gu A 258 3 (A 258 4)) → P (.inl (some (.int (zo false))), (G, (mI A8, j), cc)))))))) : EvP X (d + 3) gvm_7 0 (gv_enter [.ref 260, .int (nI w)] 3) [] (G, (mI A, j), cc) P :=
  (pv_aload_n rfl rfl   (pv_getP rfl rfl (oX0_k hp260) (oX0_0 hp260)   (pv_aload_n rfl rfl   (pv_iload_n rfl rfl   (pv_virt rfl rfl rfl rfl rfl (oX0_k hp260) rfl rfl rfl (c_highest (w := w) (A := A) hp260 H.1 ) (pv_virt rfl rfl rfl rfl rfl (oX7_k (oX0_0c hp260)) rfl rfl rfl (c_isNumberTo (m := (hiN w)) (t := t) (E := E) (i := i) (A := A) (oX0_0c hp260) H.2.1 H.2.2.1 ) (pv_if_ne_zo rfl  (fun c1 => (pv_aload_n rfl rfl   (pv_getP rfl rfl (oX0_k hp260) (oX0_0 hp260)   (pn_getI rfl rfl (oX7_k (oX0_0c hp260)) rfl   (pv_istore_n rfl rfl   (pv_iload_n rfl rfl   (Or.elim (Decidable.em (w = 3)) (fun c2e => (pn_tswl 3 64 rfl c2e (by decide) (by decide) rfl rfl (pv_aload_n rfl rfl   (pv_getP rfl rfl (oX0_k hp260) (oX0_1 hp260)   (pv_iload_n rfl rfl   (pn_putI rfl rfl (oX10_k (oX0_1c hp260))   (pv_goto rfl (pv_aload_n rfl rfl   (pv_getP rfl rfl (oX0_k hp260) (oX0_0 hp260)   (match (c_step (t := t) (E := E) (i := (tkE t E i)) (A := (gu A 17 4 (A 258 6))) (X := X) (d := d + 0) (G := G) (j := j) (cc := cc) (oX0_0c hp260) ((H.2.2.2.1 c1).2.1 c2e).1 ((H.2.2.2.1 c1).2.1 c2e).2.1 ((H.2.2.2.1 c1).2.1 c2e).2.2.1 ) with | ⟨A1v3, e3x122, h3⟩ => pv_virt rfl rfl rfl rfl rfl (oX7_k (oX0_0c hp260)) rfl rfl rfl e3x122 (pn_iconst rfl rfl   (pv_iretz rfl rfl (Or.inr rfl) (((H.2.2.2.1 c1).2.1 c2e).2.2.2 A1v3 h3))))))))))))) (fun c2n0 => (Or.elim (Decidable.em (w = 4)) (fun c2e => (pn_tswl 4 75 rfl c2e (by decide) (by decide) rfl rfl (pv_aload_n rfl rfl   (pv_getP rfl rfl (oX0_k hp260) (oX0_1 hp260)   (pn_iconst rfl rfl   (pv_iload_n rfl rfl   (pn_imul rfl   (pn_putI rfl rfl (oX10_k (oX0_1c hp260))   (pv_goto rfl (pv_aload_n rfl rfl   (pv_getP rfl rfl (oX0_k hp260) (oX0_0 hp260)   (match (c_step (t := t) (E := E) (i := (tkE t E i)) (A := (gu A 17 5 (2 * (A 258 6)))) (X := X) (d := d + 0) (G := G) (j := j) (cc := cc) (oX0_0c hp260) ((H.2.2.2.1 c1).2.2.1 c2e).1 ((H.2.2.2.1 c1).2.2.1 c2e).2.1 ((H.2.2.2.1 c1).2.2.1 c2e).2.2.1 ) with | ⟨A1v4, e4x122, h4⟩ => pv_virt rfl rfl rfl rfl rfl (oX7_k (oX0_0c hp260)) rfl rfl rfl e4x122 (pn_iconst rfl rfl   (pv_iretz rfl rfl (Or.inr rfl) (((H.2.2.2.1 c1).2.2.1 c2e).2.2.2 A1v4 h4))))))))))))))) (fun c2n1 => (Or.elim (Decidable.em (w = 5)) (fun c2e => (pn_tswl 5 88 rfl c2e (by decide) (by decide) rfl rfl (pv_aload_n rfl rfl   (pv_getP rfl rfl (oX0_k hp260) (oX0_1 hp260)   (pv_iload_n rfl rfl   (pn_putI rfl rfl (oX10_k (oX0_1c hp260))   (pv_goto rfl (pv_aload_n rfl rfl   (pv_getP rfl rfl (oX0_k hp260) (oX0_0 hp260)   (match (c_step (t := t) (E := E) (i := (tkE t E i)) (A := (gu A 17 6 (A 258 6))) (X := X) (d := d + 0) (G := G) (j := j) (cc := cc) (oX0_0c hp260) ((H.2.2.2.1 c1).2.2.2.1 c2e).1 ((H.2.2.2.1 c1).2.2.2.1 c2e).2.1 ((H.2.2.2.1 c1).2.2.2.1 c2e).2.2.1 ) with | ⟨A1v5, e5x122, h5⟩ => pv_virt rfl rfl rfl rfl rfl (oX7_k (oX0_0c hp260)) rfl rfl rfl e5x122 (pn_iconst rfl rfl   (pv_iretz rfl rfl (Or.inr rfl) (((H.2.2.2.1 c1).2.2.2.1 c2e).2.2.2 A1v5 h5))))))))))))) (fun c2n2 => (Or.elim (Decidable.em (w = 6)) (fun c2e => (pn_tswl 6 99 rfl c2e (by decide) (by decide) rfl rfl (pv_aload_n rfl rfl   (pv_getP rfl rfl (oX0_k hp260) (oX0_1 hp260)   (pv_iload_n rfl rfl   (pn_putI rfl rfl (oX10_k (oX0_1c hp260))   (pv_goto rfl (pv_aload_n rfl rfl   (pv_getP rfl rfl (oX0_k hp260) (oX0_0 hp260)   (match (c_step (t := t) (E := E) (i := (tkE t E i)) (A := (gu A 17 7 (A 258 6))) (X := X) (d := d + 0) (G := G) (j := j) (cc := cc) (oX0_0c hp260) ((H.2.2.2.1 c1).2.2.2.2.1 c2e).1 ((H.2.2.2.1 c1).2.2.2.2.1 c2e).2.1 ((H.2.2.2.1 c1).2.2.2.2.1 c2e).2.2.1 ) with | ⟨A1v6, e6x122, h6⟩ => pv_virt rfl rfl rfl rfl rfl (oX7_k (oX0_0c hp260)) rfl rfl rfl e6x122 (pn_iconst rfl rfl   (pv_iretz rfl rfl (Or.inr rfl) (((H.2.2.2.1 c1).2.2.2.2.1 c2e).2.2.2 A1v6 h6))))))))))))) (fun c2n3 => (have c2d : w < 3 ∨ 6 < w := (by omega); pn_tswlD 3 6 110 rfl rfl rfl (by decide) (H.2.2.2.1 c1).1 c2d rfl (pv_aload_n rfl rfl   (pv_getP rfl rfl (oX0_k hp260) (oX0_1 hp260)   (pv_iload_n rfl rfl   (pn_putI rfl rfl (oX10_k (oX0_1c hp260))   (pv_aload_n rfl rfl   (pv_getP rfl rfl (oX0_k hp260) (oX0_0 hp260)   (match (c_step (t := t) (E := E) (i := (tkE t E i)) (A := (gu A 17 9 (A 258 6))) (X := X) (d := d + 0) (G := G) (j := j) (cc := cc) (oX0_0c hp260) ((H.2.2.2.1 c1).2.2.2.2.2 c2d).1 ((H.2.2.2.1 c1).2.2.2.2.2 c2d).2.1 ((H.2.2.2.1 c1).2.2.2.2.2 c2d).2.2.1 ) with | ⟨A1v7, e7x122, h7⟩ => pv_virt rfl rfl rfl rfl rfl (oX7_k (oX0_0c hp260)) rfl rfl rfl e7x122 (pn_iconst rfl rfl   (pv_iretz rfl rfl (Or.inr rfl) (((H.2.2.2.1 c1).2.2.2.2.2 c2d).2.2.2 A1v7 h7))))))))))))))))))))))))) (fun c1 => (pv_aload_n rfl rfl   (pv_getP rfl rfl (oX0_k hp260) (oX0_0 hp260)   (match (⟨(gu A 258 3 (A 258 4)), rfl⟩ : ∃ Z : Nat → Nat → Nat, Z = (gu A 258 3 (A 258 4))) with | ⟨A8, q8⟩ => pv_virt rfl rfl rfl rfl rfl (oX7_k (oX0_0c hp260)) rfl rfl rfl (ev_eqM q8 (c_refuse (A := A) (oX0_0c hp260) )) (pv_iretz rfl rfl (zo_b _) ((H.2.2.2.2 c1) A8 q8)))))))))))))
theorem c_readSetting_p {X : gv_X} {d : Nat} {G : gv_Sh} {A : Nat → Nat → Nat} {j : Nat → Nat → Int64} {cc : gv_Rs} {P : gv_O × gv_S → Prop} {w : Nat} {t : Nat → Nat} {E : Nat} {i : Nat} {R : Nat → Nat} (hp260 : oX0 G 260) (p0 : 3 ≤ w ∧ w ≤ 7) (p1 : kI A t E i) (p2 : okW R) (p3 : rW A 17 R) (hP : ∀ A1 : Nat → Nat → Nat, ∀ b1 : Bool, (bkP A A1 t E b1 (stS t E R i w)) → P (.inl (some (.int (zo b1))), (G, (mI A1, j), cc))) : EvP X (d + 3) gvm_7 0 (gv_enter [.ref 260, .int (nI w)] 3) [] (G, (mI A, j), cc) P := by
  have be := tkE_b (t := t) p1.2.1
  refine w7 (t := t) (E := E) (i := i) hp260 ⟨p0.2, p1, by have := hiN_le w; omega, fun c1 => ?_, fun c1 C hC => ?_⟩
  · have nv := nd_t c1
    obtain ⟨k1, v6, ke⟩ := tkN_v p1 nv
    have OK : ∀ x v, x = 4 ∨ x = 5 ∨ x = 6 ∨ x = 7 ∨ x = 9 → stS t E R i w = (true, seR R x v, nmE t E i, skB t E i) → ∀ C, kI C t E (tkE t E i) ∧ frR (gu A 17 x v) C → P (.inl (some (.int (nI 1))), (G, (mI C, j), cc)) := fun x v hx e C h => by
      have f7 : ∀ q, q ≠ 17 → q ≠ 258 → C q = A q := fun q a b => (h.2.1 q b).trans (gu_row a)
      have c7 : ∀ k, C 17 k = if k = x then v else A 17 k := fun k => by
        rw [h.2.1 17 (by decide)]
        by_cases z : k = x
        · rw [z, gu_hit, if_pos rfl]
        · rw [gu_k z rfl, if_neg z]
      refine qz1 (hP C true ?_) rfl
      rw [e]
      refine bkP_t h.1 ((frR_3 h.2).trans (by rw [gu_row (by decide)])) rfl (by rw [ke]) ?_ (fun q a b => f7 q (by omega) b)
      refine rW_nw p3 p2 (fun i hi => seR_ne (by omega)) (fun q a b => f7 q (by omega) (by omega)) (by rw [c7, if_neg (by omega)]) ?_
      obtain ⟨b1, b2, b3, b4, b5, b6, b7, b8⟩ := p3.2.2.2.1
      unfold rN seR
      rw [c7 4, c7 5, c7 6, c7 7, c7 8, c7 9, c7 10, c7 11, b1, b2, b3, b4, b5, b6, b7, b8]
      refine ⟨rfl, rfl, rfl, rfl, rfl, rfl, ?_, ?_⟩
      · rw [if_neg (by omega)]; exact (if_neg (by omega)).symm
      · rw [if_neg (by omega)]; exact (if_neg (by omega)).symm
    rw [v6]
    refine ⟨by omega, fun c => ⟨tI_of p1.1 (by rw [gu_row (by decide)]) (gu_row (by decide)), p1.2.2.2.1, be.2, fun C hC => OK 4 _ (by omega) ?_ C hC⟩, fun c => ⟨tI_of p1.1 (by rw [gu_row (by decide)]) (gu_row (by decide)), p1.2.2.2.1, be.2, fun C hC => OK 5 _ (by omega) ?_ C hC⟩, fun c => ⟨tI_of p1.1 (by rw [gu_row (by decide)]) (gu_row (by decide)), p1.2.2.2.1, be.2, fun C hC => OK 6 _ (by omega) ?_ C hC⟩, fun c => ⟨tI_of p1.1 (by rw [gu_row (by decide)]) (gu_row (by decide)), p1.2.2.2.1, be.2, fun C hC => OK 7 _ (by omega) ?_ C hC⟩, fun c => ⟨tI_of p1.1 (by rw [gu_row (by decide)]) (gu_row (by decide)), p1.2.2.2.1, be.2, fun C hC => OK 9 _ (by omega) ?_ C hC⟩⟩
    · subst c; exact rnS_t nv
    · subst c; exact shS_t nv
    · subst c; exact rnS_t nv
    · subst c; exact rnS_t nv
    · obtain rfl : w = 7 := by omega
      exact rnS_t nv
  · have nv := nd_f c1
    obtain ⟨u1, u2, u3⟩ := ref_k p1 hC
    refine hP C false (bkP_f u1 ?_ (u2.trans ?_) (fun q a b => u3 q b))
    · unfold stS
      split
      · subst w; rw [shS_f nv]
      · rw [rnS_f nv]
    · unfold stS
      split
      · subst w; rw [shS_f nv]
      · rw [rnS_f nv]
theorem c_readSetting {X : gv_X} {d : Nat} {G : gv_Sh} {A : Nat → Nat → Nat} {j : Nat → Nat → Int64} {cc : gv_Rs} {w : Nat} {t : Nat → Nat} {E : Nat} {i : Nat} {R : Nat → Nat} (hp260 : oX0 G 260) (p0 : 3 ≤ w ∧ w ≤ 7) (p1 : kI A t E i) (p2 : okW R) (p3 : rW A 17 R) : ∃ A1 : Nat → Nat → Nat, ∃ b1 : Bool, Ev X (d + 3) gvm_7 0 (gv_enter [.ref 260, .int (nI w)] 3) [] (G, (mI A, j), cc) (.inl (some (.int (zo b1))), (G, (mI A1, j), cc)) ∧ (bkP A A1 t E b1 (stS t E R i w)) := by
  obtain ⟨_, h, A1, b1, rfl, hp⟩ := c_readSetting_p (X := X) (d := d) (G := G) (A := A) (j := j) (cc := cc) (w := w) (t := t) (E := E) (i := i) (R := R) (P := fun r => ∃ A1 : Nat → Nat → Nat, ∃ b1 : Bool, r = (.inl (some (.int (zo b1))), (G, (mI A1, j), cc)) ∧ (bkP A A1 t E b1 (stS t E R i w))) hp260 p0 p1 p2 p3 (fun A1 b1 h => ⟨A1, b1, rfl, h⟩)
  exact ⟨A1, b1, h, hp⟩
theorem w6 {X : gv_X} {d : Nat} {G : gv_Sh} {A : Nat → Nat → Nat} {j : Nat → Nat → Int64} {cc : gv_Rs} {P : gv_O × gv_S → Prop}  (hp260 : oX0 G 260) (H : EvP X (d + 3) gvm_6 2 [some (.ref 260), some (.int (nI 0))] [] (G, (mI A, j), cc) P) : EvP X (d + 3) gvm_6 0 (gv_enter [.ref 260] 2) [] (G, (mI A, j), cc) P :=
  (pn_iconst rfl rfl   (pv_istore_n rfl rfl   H))
theorem w6_2 {X : gv_X} {d : Nat} {G : gv_Sh} {A : Nat → Nat → Nat} {j : Nat → Nat → Int64} {cc : gv_Rs} {P : gv_O × gv_S → Prop} {l1 : Nat} {t : Nat → Nat} {E : Nat} {i : Nat} (hp260 : oX0 G 260) (H : (l1 < 2147483648) ∧ (((8 ≤ l1) → P (.inl (some (.int (nI 1))), (G, (mI A, j), cc))) ∧ ((l1 < 8) → (l1 < 4294967296) ∧ (((l1 = 0) → (kI A t E i) ∧ ((((!decide (nmV t E i 3 = 4294967295)) = true) → (l1 < 8) ∧ ((tI (gu A 25 l1 (A 258 6)) t E) ∧ ((A 258 2 = (tkE t E i)) ∧ (((tkE t E i) ≤ E) ∧ ((∀ A1v2 : Nat → Nat → Nat, ((kI A1v2 t E (tkE t E i)) ∧ (frR (gu A 25 l1 (A 258 6)) A1v2)) → EvP X (d + 3) gvm_6 2 [some (.ref 260), some (.int (nI (l1 + 1)))] [] (G, (mI A1v2, j), cc) P)))))) ∧ (((!decide (nmV t E i 3 = 4294967295)) = false) → (∀ A5 : Nat → Nat → Nat, A5 = (gu A 258 3 (A 258 4)) → P (.inl (some (.int (zo false))), (G, (mI A5, j), cc)))))) ∧ ((¬ l1 = 0) → ((A 258 5) < 4294967296) ∧ (((¬ (A 258 5) = 1) → P (.inl (some (.int (nI 1))), (G, (mI A, j), cc))) ∧ (((A 258 5) = 1) → (kI A t E i) ∧ ((((!decide (nmV t E i 3 = 4294967295)) = true) → (l1 < 8) ∧ ((tI (gu A 25 l1 (A 258 6)) t E) ∧ ((A 258 2 = (tkE t E i)) ∧ (((tkE t E i) ≤ E) ∧ ((∀ A1v5 : Nat → Nat → Nat, ((kI A1v5 t E (tkE t E i)) ∧ (frR (gu A 25 l1 (A 258 6)) A1v5)) → EvP X (d + 3) gvm_6 2 [some (.ref 260), some (.int (nI (l1 + 1)))] [] (G, (mI A1v5, j), cc) P)))))) ∧ (((!decide (nmV t E i 3 = 4294967295)) = false) → (∀ A9 : Nat → Nat → Nat, A9 = (gu A 258 3 (A 258 4)) → P (.inl (some (.int (zo false))), (G, (mI A9, j), cc)))))))))))) : EvP X (d + 3) gvm_6 2 [some (.ref 260), some (.int (nI l1))] [] (G, (mI A, j), cc) P :=
  (pv_iload_n rfl rfl   (pn_bipush rfl rfl   (pn_ic_ge rfl H.1 (by decide) (fun c1 => (pn_iconst rfl rfl   (pv_iretz rfl rfl (Or.inr rfl) (H.2.1 c1)))) (fun c1 => (pv_iload_n rfl rfl   (pn_if_eq rfl (H.2.2 c1).1 (fun c2 => (pv_aload_n rfl rfl   (pv_getP rfl rfl (oX0_k hp260) (oX0_0 hp260)   (pn_iconst rfl rfl   (pv_virt rfl rfl rfl rfl rfl (oX7_k (oX0_0c hp260)) rfl rfl rfl (c_isNumberTo (m := 3) (t := t) (E := E) (i := i) (A := A) (oX0_0c hp260) ((H.2.2 c1).2.1 c2).1 (by decide) ) (pv_if_ne_zo rfl  (fun c3 => (pv_aload_n rfl rfl   (pv_getP rfl rfl (oX0_k hp260) (oX0_1 hp260)   (pv_getP rfl rfl (oX10_k (oX0_1c hp260)) (oX10_3 (oX0_1c hp260))   (pv_iload_n rfl rfl   (pv_aload_n rfl rfl   (pv_getP rfl rfl (oX0_k hp260) (oX0_0 hp260)   (pn_getI rfl rfl (oX7_k (oX0_0c hp260)) rfl   (pn_iast rfl (oX10_3c (oX0_1c hp260)) (by decide) (((H.2.2 c1).2.1 c2).2.1 c3).1  (pn_iinc rfl rfl rfl rfl   (pv_aload_n rfl rfl   (pv_getP rfl rfl (oX0_k hp260) (oX0_0 hp260)   (match (c_step (t := t) (E := E) (i := (tkE t E i)) (A := (gu A 25 l1 (A 258 6))) (X := X) (d := d + 0) (G := G) (j := j) (cc := cc) (oX0_0c hp260) (((H.2.2 c1).2.1 c2).2.1 c3).2.1 (((H.2.2 c1).2.1 c2).2.1 c3).2.2.1 (((H.2.2 c1).2.1 c2).2.1 c3).2.2.2.1 ) with | ⟨A1v2, e2x65, h4⟩ => pv_virt rfl rfl rfl rfl rfl (oX7_k (oX0_0c hp260)) rfl rfl rfl e2x65 (pv_goto rfl ((((H.2.2 c1).2.1 c2).2.1 c3).2.2.2.2 A1v2 h4))))))))))))))) (fun c3 => (pv_aload_n rfl rfl   (pv_getP rfl rfl (oX0_k hp260) (oX0_0 hp260)   (match (⟨(gu A 258 3 (A 258 4)), rfl⟩ : ∃ Z : Nat → Nat → Nat, Z = (gu A 258 3 (A 258 4))) with | ⟨A5, q5⟩ => pv_virt rfl rfl rfl rfl rfl (oX7_k (oX0_0c hp260)) rfl rfl rfl (ev_eqM q5 (c_refuse (A := A) (oX0_0c hp260) )) (pv_iretz rfl rfl (zo_b _) ((((H.2.2 c1).2.1 c2).2.2 c3) A5 q5)))))))))))) (fun c2 => (pv_aload_n rfl rfl   (pv_getP rfl rfl (oX0_k hp260) (oX0_0 hp260)   (pn_getI rfl rfl (oX7_k (oX0_0c hp260)) rfl   (pn_iconst rfl rfl   (pn_ic_ne rfl ((H.2.2 c1).2.2 c2).1 (by decide) (fun c6 => (pn_iconst rfl rfl   (pv_iretz rfl rfl (Or.inr rfl) (((H.2.2 c1).2.2 c2).2.1 c6)))) (fun c6 => (pv_aload_n rfl rfl   (pv_getP rfl rfl (oX0_k hp260) (oX0_0 hp260)   (pn_iconst rfl rfl   (pv_virt rfl rfl rfl rfl rfl (oX7_k (oX0_0c hp260)) rfl rfl rfl (c_isNumberTo (m := 3) (t := t) (E := E) (i := i) (A := A) (oX0_0c hp260) (((H.2.2 c1).2.2 c2).2.2 c6).1 (by decide) ) (pv_if_ne_zo rfl  (fun c7 => (pv_aload_n rfl rfl   (pv_getP rfl rfl (oX0_k hp260) (oX0_1 hp260)   (pv_getP rfl rfl (oX10_k (oX0_1c hp260)) (oX10_3 (oX0_1c hp260))   (pv_iload_n rfl rfl   (pv_aload_n rfl rfl   (pv_getP rfl rfl (oX0_k hp260) (oX0_0 hp260)   (pn_getI rfl rfl (oX7_k (oX0_0c hp260)) rfl   (pn_iast rfl (oX10_3c (oX0_1c hp260)) (by decide) ((((H.2.2 c1).2.2 c2).2.2 c6).2.1 c7).1  (pn_iinc rfl rfl rfl rfl   (pv_aload_n rfl rfl   (pv_getP rfl rfl (oX0_k hp260) (oX0_0 hp260)   (match (c_step (t := t) (E := E) (i := (tkE t E i)) (A := (gu A 25 l1 (A 258 6))) (X := X) (d := d + 0) (G := G) (j := j) (cc := cc) (oX0_0c hp260) ((((H.2.2 c1).2.2 c2).2.2 c6).2.1 c7).2.1 ((((H.2.2 c1).2.2 c2).2.2 c6).2.1 c7).2.2.1 ((((H.2.2 c1).2.2 c2).2.2 c6).2.1 c7).2.2.2.1 ) with | ⟨A1v5, e5x65, h8⟩ => pv_virt rfl rfl rfl rfl rfl (oX7_k (oX0_0c hp260)) rfl rfl rfl e5x65 (pv_goto rfl (((((H.2.2 c1).2.2 c2).2.2 c6).2.1 c7).2.2.2.2 A1v5 h8))))))))))))))) (fun c7 => (pv_aload_n rfl rfl   (pv_getP rfl rfl (oX0_k hp260) (oX0_0 hp260)   (match (⟨(gu A 258 3 (A 258 4)), rfl⟩ : ∃ Z : Nat → Nat → Nat, Z = (gu A 258 3 (A 258 4))) with | ⟨A9, q9⟩ => pv_virt rfl rfl rfl rfl rfl (oX7_k (oX0_0c hp260)) rfl rfl rfl (ev_eqM q9 (c_refuse (A := A) (oX0_0c hp260) )) (pv_iretz rfl rfl (zo_b _) (((((H.2.2 c1).2.2 c2).2.2 c6).2.2 c7) A9 q9))))))))))))))))))))))))
theorem c_readCells_p {X : gv_X} {d : Nat} {G : gv_Sh} {A : Nat → Nat → Nat} {j : Nat → Nat → Int64} {cc : gv_Rs} {P : gv_O × gv_S → Prop} {t : Nat → Nat} {E : Nat} {i : Nat} {R : Nat → Nat} (hp260 : oX0 G 260) (p0 : kI A t E i) (p1 : okW R) (p2 : rW A 17 R) (hP : ∀ A1 : Nat → Nat → Nat, ∀ b1 : Bool, (bkP A A1 t E b1 (ceS t E 9 R 0 i)) → P (.inl (some (.int (zo b1))), (G, (mI A1, j), cc))) : EvP X (d + 3) gvm_6 0 (gv_enter [.ref 260] 2) [] (G, (mI A, j), cc) P := by
  obtain ⟨r, hr⟩ : ∃ r, r = ceS t E 9 R 0 i := ⟨_, rfl⟩
  rw [← hr] at hP
  have L : ∀ f n S i B, n + f = 8 → kI B t E i → okW S → rW B 17 S → B 258 3 = A 258 3 → frD A B → ((n = 0 ∨ nnB t E i = true) → r = ceS t E (f + 1) S n i) → (n ≠ 0 → nnB t E i = false → r = (true, S, skB t E i, skB t E i)) → EvP X (d + 3) gvm_6 2 [some (.ref 260), some (.int (nI n))] [] (G, (mI B, j), cc) P := by
    intro f
    induction f with
    | zero =>
      intro n S i B e1 k oS w h3 fr h4 h5
      obtain rfl : n = 8 := by omega
      refine w6_2 (t := t) (E := E) (i := i) hp260 ⟨by omega, fun c => qz1 (hP B true ?_) rfl, fun c => absurd c (by omega)⟩
      cases y : nnB t E i with
      | true =>
        have e : r = (false, S, nmE t E i, skB t E i) := by
          rw [h4 (Or.inr y)]
          show (if nmV t E i 3 = 4294967295 ∨ 8 ≤ 8 then _ else _) = _
          rw [if_pos (Or.inr (Nat.le_refl _))]
        rw [e]
        rw [tkK_n k.2.1] at y
        exact bkP_u k h3 rfl rfl (ed_k (Or.inl (of_decide_eq_true y))) fr
      | false =>
        rw [h5 (by decide) y]
        exact bkP_t k h3 rfl (skB_id k.2.1).symm w fr
    | succ f ih =>
      intro n S i B e1 k oS w h3 fr h4 h5
      have be := tkE_b (t := t) k.2.1
      have kl := tkK_le (t := t) (E := E) (i := i)
      have k5 := k.2.2.2.2.1
      have st : ceS t E (f + 1 + 1) S n i = if nmV t E i 3 = 4294967295 ∨ 8 ≤ n then (false, S, nmE t E i, skB t E i) else if nnB t E (nmE t E i) = true then ceS t E (f + 1) (seR S (22 + n) (nmV t E i 3)) (n + 1) (skB t E (nmE t E i)) else (true, seR S (22 + n) (nmV t E i 3), skB t E (nmE t E i), skB t E (nmE t E i)) := rfl
      have K1 : (n = 0 ∨ nnB t E i = true) → (!decide (nmV t E i 3 = 4294967295)) = true → ∀ C, kI C t E (tkE t E i) ∧ frR (gu B 25 n (B 258 6)) C → EvP X (d + 3) gvm_6 2 [some (.ref 260), some (.int (nI (n + 1)))] [] (G, (mI C, j), cc) P := fun z c C h => by
        have nv := nd_t c
        obtain ⟨k1, v6, ke⟩ := tkN_v k nv
        have v3 : nmV t E i 3 ≤ 3 := by
          rcases nmV_lt (t := t) (E := E) (i := i) (h := 3) k.2.1 (Or.inl (by decide)) with x | x
          · exact absurd x nv
          · omega
        have nb := nmE_b (t := t) k.2.1
        have sb := skB_b (t := t) nb.2
        have f7 : ∀ q, q ≠ 25 → q ≠ 258 → C q = B q := fun q a b => (h.2.1 q b).trans (gu_row a)
        have e4 : r = if nnB t E (nmE t E i) = true then ceS t E (f + 1) (seR S (22 + n) (nmV t E i 3)) (n + 1) (skB t E (nmE t E i)) else (true, seR S (22 + n) (nmV t E i 3), skB t E (nmE t E i), skB t E (nmE t E i)) := by
          rw [h4 z, st, if_neg (by omega)]
        refine ih (n + 1) (seR S (22 + n) (nmV t E i 3)) (skB t E (nmE t E i)) C (by omega) (kI_sk h.1 (by rw [skB_id nb.2, ke]) sb.2) (okW_v oS (by omega)) ?_ ?_ ?_ ?_ ?_
        · refine rW_cw w oS (fun x hx => seR_ne (by omega)) (fun q a b c => f7 q (by omega) (by omega)) (fun x hx => ?_)
          rw [h.2.1 _ (by decide)]
          show gu B 25 n (B 258 6) 25 x = _
          by_cases y : x = n
          · rw [y, gu_hit, seR_at, v6]
          · rw [gu_k y rfl, seR_ne (by omega)]; exact w.2.2.1 x hx
        · rw [frR_3 h.2, gu_row (by decide)]; exact h3
        · exact fun q a b => (f7 q (by omega) b).trans (fr q a b)
        · intro y
          rw [nnB_sk nb.2] at y
          rw [e4, if_pos (by rcases y with y | y; omega; exact y)]
        · intro _ y
          rw [nnB_sk nb.2] at y
          rw [e4, if_neg (by rw [y]; decide), skB_id nb.2]
      have K2 : (n = 0 ∨ nnB t E i = true) → (!decide (nmV t E i 3 = 4294967295)) = false → ∀ C, C = gu B 258 3 (B 258 4) → P (.inl (some (.int (zo false))), (G, (mI C, j), cc)) := fun z c C h => by
        have nv := nd_f c
        obtain ⟨u1, u2, u3⟩ := ref_k k h
        have e4 : r = (false, S, nmE t E i, skB t E i) := by rw [h4 z, st, if_pos (Or.inl nv)]
        refine hP C false ?_
        rw [e4]
        exact bkP_f u1 rfl u2 (fun q a b => (u3 q b).trans (fr q a b))
      have T1 : tI (gu B 25 n (B 258 6)) t E := tI_of k.1 (by rw [gu_row (by decide)]) (gu_row (by decide))
      refine w6_2 (t := t) (E := E) (i := i) hp260 ⟨by omega, fun c => absurd c (by omega), fun c => ⟨by omega, fun c0 => ⟨k, fun c2 => ⟨by omega, T1, k.2.2.2.1, be.2, K1 (Or.inl c0) c2⟩, K2 (Or.inl c0)⟩, fun c0 => ⟨by omega, fun c1 => ?_, fun c1 => ?_⟩⟩⟩
      · refine qz1 (hP B true ?_) rfl
        rw [h5 c0 (by rw [tkK_n k.2.1]; exact decide_eq_false (by omega))]
        exact bkP_t k h3 rfl (skB_id k.2.1).symm w fr
      · have y : nnB t E i = true := by rw [tkK_n k.2.1]; exact decide_eq_true (by omega)
        exact ⟨k, fun c2 => ⟨by omega, T1, k.2.2.2.1, be.2, K1 (Or.inr y) c2⟩, K2 (Or.inr y)⟩
  exact w6 hp260 (L 8 0 R i A rfl p0 p1 p2 rfl (frD_rf A) (fun _ => hr) (fun z => absurd rfl z))
theorem c_readCells {X : gv_X} {d : Nat} {G : gv_Sh} {A : Nat → Nat → Nat} {j : Nat → Nat → Int64} {cc : gv_Rs} {t : Nat → Nat} {E : Nat} {i : Nat} {R : Nat → Nat} (hp260 : oX0 G 260) (p0 : kI A t E i) (p1 : okW R) (p2 : rW A 17 R) : ∃ A1 : Nat → Nat → Nat, ∃ b1 : Bool, Ev X (d + 3) gvm_6 0 (gv_enter [.ref 260] 2) [] (G, (mI A, j), cc) (.inl (some (.int (zo b1))), (G, (mI A1, j), cc)) ∧ (bkP A A1 t E b1 (ceS t E 9 R 0 i)) := by
  obtain ⟨_, h, A1, b1, rfl, hp⟩ := c_readCells_p (X := X) (d := d) (G := G) (A := A) (j := j) (cc := cc) (t := t) (E := E) (i := i) (R := R) (P := fun r => ∃ A1 : Nat → Nat → Nat, ∃ b1 : Bool, r = (.inl (some (.int (zo b1))), (G, (mI A1, j), cc)) ∧ (bkP A A1 t E b1 (ceS t E 9 R 0 i))) hp260 p0 p1 p2 (fun A1 b1 h => ⟨A1, b1, rfl, h⟩)
  exact ⟨A1, b1, h, hp⟩
theorem w5 {X : gv_X} {d : Nat} {G : gv_Sh} {A : Nat → Nat → Nat} {j : Nat → Nat → Int64} {cc : gv_Rs} {P : gv_O × gv_S → Prop}  (hp260 : oX0 G 260) (H : EvP X (d + 3) gvm_5 8 [some (.ref 260)] [] (G, (mI (gu A 17 2 0), j), cc) P) : EvP X (d + 3) gvm_5 0 (gv_enter [.ref 260] 1) [] (G, (mI A, j), cc) P :=
  (pv_aload_n rfl rfl   (pv_getP rfl rfl (oX0_k hp260) (oX0_1 hp260)   (pn_iconst rfl rfl   (pn_putI rfl rfl (oX10_k (oX0_1c hp260))   H))))
theorem w5_8 {X : gv_X} {d : Nat} {G : gv_Sh} {A : Nat → Nat → Nat} {j : Nat → Nat → Int64} {cc : gv_Rs} {P : gv_O × gv_S → Prop} {t : Nat → Nat} {E : Nat} {i : Nat} (hp260 : oX0 G 260) (H : ((A 17 2) < 2147483648) ∧ (((10 ≤ (A 17 2)) → P (.inl (some (.int (nI 1))), (G, (mI A, j), cc))) ∧ (((A 17 2) < 10) → ((A 258 5) < 4294967296) ∧ (((¬ (A 258 5) = 1) → P (.inl (some (.int (nI 1))), (G, (mI A, j), cc))) ∧ (((A 258 5) = 1) → (kI A t E i) ∧ (((((A 18 0) + 4294967296 - 1) % 4294967296) < 4294967296) ∧ ((((!decide (nmV t E i (((A 18 0) + 4294967296 - 1) % 4294967296) = 4294967295)) = true) → ((A 17 2) < 10) ∧ ((tI (gu (gu A 24 (A 17 2) (A 258 6)) 17 2 ((A 17 2) + 1)) t E) ∧ ((A 258 2 = (tkE t E i)) ∧ (((tkE t E i) ≤ E) ∧ ((∀ A1v2 : Nat → Nat → Nat, ((kI A1v2 t E (tkE t E i)) ∧ (frR (gu (gu A 24 (A 17 2) (A 258 6)) 17 2 ((A 17 2) + 1)) A1v2)) → EvP X (d + 3) gvm_5 8 [some (.ref 260)] [] (G, (mI A1v2, j), cc) P)))))) ∧ (((!decide (nmV t E i (((A 18 0) + 4294967296 - 1) % 4294967296) = 4294967295)) = false) → (∀ A5 : Nat → Nat → Nat, A5 = (gu A 258 3 (A 258 4)) → P (.inl (some (.int (zo false))), (G, (mI A5, j), cc))))))))))) : EvP X (d + 3) gvm_5 8 [some (.ref 260)] [] (G, (mI A, j), cc) P :=
  (pv_aload_n rfl rfl   (pv_getP rfl rfl (oX0_k hp260) (oX0_1 hp260)   (pn_getI rfl rfl (oX10_k (oX0_1c hp260)) rfl   (pn_bipush rfl rfl   (pn_ic_ge rfl H.1 (by decide) (fun c1 => (pn_iconst rfl rfl   (pv_iretz rfl rfl (Or.inr rfl) (H.2.1 c1)))) (fun c1 => (pv_aload_n rfl rfl   (pv_getP rfl rfl (oX0_k hp260) (oX0_0 hp260)   (pn_getI rfl rfl (oX7_k (oX0_0c hp260)) rfl   (pn_iconst rfl rfl   (pn_ic_ne rfl (H.2.2 c1).1 (by decide) (fun c2 => (pn_iconst rfl rfl   (pv_iretz rfl rfl (Or.inr rfl) ((H.2.2 c1).2.1 c2)))) (fun c2 => (pv_aload_n rfl rfl   (pv_getP rfl rfl (oX0_k hp260) (oX0_0 hp260)   (pv_aload_n rfl rfl   (pv_getP rfl rfl (oX0_k hp260) (oX0_1 hp260)   (pv_getP rfl rfl (oX10_k (oX0_1c hp260)) (oX10_0 (oX0_1c hp260))   (pn_getI rfl rfl (oX6_k (oX10_0c (oX0_1c hp260))) rfl   (pn_iconst rfl rfl   (pn_isubw rfl (by decide)  (pv_virt rfl rfl rfl rfl rfl (oX7_k (oX0_0c hp260)) rfl rfl rfl (c_isNumberTo (m := (((A 18 0) + 4294967296 - 1) % 4294967296)) (t := t) (E := E) (i := i) (A := A) (oX0_0c hp260) ((H.2.2 c1).2.2 c2).1 ((H.2.2 c1).2.2 c2).2.1 ) (pv_if_ne_zo rfl  (fun c3 => (pv_aload_n rfl rfl   (pv_getP rfl rfl (oX0_k hp260) (oX0_1 hp260)   (pv_getP rfl rfl (oX10_k (oX0_1c hp260)) (oX10_1 (oX0_1c hp260))   (pv_aload_n rfl rfl   (pv_getP rfl rfl (oX0_k hp260) (oX0_1 hp260)   (pn_getI rfl rfl (oX10_k (oX0_1c hp260)) rfl   (pv_aload_n rfl rfl   (pv_getP rfl rfl (oX0_k hp260) (oX0_0 hp260)   (pn_getI rfl rfl (oX7_k (oX0_0c hp260)) rfl   (pn_iast rfl (oX10_1c (oX0_1c hp260)) (by decide) (((H.2.2 c1).2.2 c2).2.2.1 c3).1  (pv_aload_n rfl rfl   (pv_getP rfl rfl (oX0_k hp260) (oX0_1 hp260)   (pv_dup rfl rfl   (pn_getI rfl rfl (oX10_k (oX0_1c hp260)) (gu_q (by omega) rfl)   (pn_iconst rfl rfl   (pn_iadd rfl   (pn_putI rfl rfl (oX10_k (oX0_1c hp260))   (pv_aload_n rfl rfl   (pv_getP rfl rfl (oX0_k hp260) (oX0_0 hp260)   (match (c_step (t := t) (E := E) (i := (tkE t E i)) (A := (gu (gu A 24 (A 17 2) (A 258 6)) 17 2 ((A 17 2) + 1))) (X := X) (d := d + 0) (G := G) (j := j) (cc := cc) (oX0_0c hp260) (((H.2.2 c1).2.2 c2).2.2.1 c3).2.1 (((H.2.2 c1).2.2 c2).2.2.1 c3).2.2.1 (((H.2.2 c1).2.2 c2).2.2.1 c3).2.2.2.1 ) with | ⟨A1v2, e2x100, h4⟩ => pv_virt rfl rfl rfl rfl rfl (oX7_k (oX0_0c hp260)) rfl rfl rfl e2x100 (pv_goto rfl ((((H.2.2 c1).2.2 c2).2.2.1 c3).2.2.2.2 A1v2 h4))))))))))))))))))))))) (fun c3 => (pv_aload_n rfl rfl   (pv_getP rfl rfl (oX0_k hp260) (oX0_0 hp260)   (match (⟨(gu A 258 3 (A 258 4)), rfl⟩ : ∃ Z : Nat → Nat → Nat, Z = (gu A 258 3 (A 258 4))) with | ⟨A5, q5⟩ => pv_virt rfl rfl rfl rfl rfl (oX7_k (oX0_0c hp260)) rfl rfl rfl (ev_eqM q5 (c_refuse (A := A) (oX0_0c hp260) )) (pv_iretz rfl rfl (zo_b _) ((((H.2.2 c1).2.2 c2).2.2.2 c3) A5 q5))))))))))))))))))))))))))))
theorem c_readProgram_p {X : gv_X} {d : Nat} {G : gv_Sh} {A : Nat → Nat → Nat} {j : Nat → Nat → Int64} {cc : gv_Rs} {P : gv_O × gv_S → Prop} {t : Nat → Nat} {E : Nat} {i : Nat} {R : Nat → Nat} (hp260 : oX0 G 260) (p0 : kI A t E i) (p1 : okW R) (p2 : rW A 17 R) (hP : ∀ A1 : Nat → Nat → Nat, ∀ b1 : Bool, (bkP A A1 t E b1 (pgS t E 12 R 0 i)) → P (.inl (some (.int (zo b1))), (G, (mI A1, j), cc))) : EvP X (d + 3) gvm_5 0 (gv_enter [.ref 260] 1) [] (G, (mI A, j), cc) P := by
  obtain ⟨r, hr⟩ : ∃ r, r = pgS t E 12 R 0 i := ⟨_, rfl⟩
  rw [← hr] at hP
  have L : ∀ f n S i B, n + f = 10 → kI B t E i → okW S → (∀ k, k < n → S (12 + k) < S 0) → rW B 17 (seR S 3 n) → B 258 3 = A 258 3 → frD A B → r = pgS t E (f + 2) S n i → EvP X (d + 3) gvm_5 8 [some (.ref 260)] [] (G, (mI B, j), cc) P := by
    intro f
    induction f with
    | zero =>
      intro n S i B e1 k oS hk w h3 fr h4
      obtain rfl : n = 10 := by omega
      have b2 : B 17 2 = 10 := by have := w.2.1.1; rw [seR_at] at this; exact this
      refine w5_8 (t := t) (E := E) (i := i) hp260 ⟨by omega, fun c => qz1 (hP B true ?_) rfl, fun c => absurd c (by omega)⟩
      have st : pgS t E (0 + 2) S 10 i = if nnB t E i = true then (if nmV t E i ((S 0 + 4294967296 - 1) % 4294967296) = 4294967295 ∨ 10 ≤ 10 then (false, seR S 3 (10 + 1), nmE t E i, skB t E i) else pgS t E 1 (seR S (12 + 10) (nmV t E i ((S 0 + 4294967296 - 1) % 4294967296))) (10 + 1) (nmE t E i)) else (true, seR S 3 10, skB t E i, skB t E i) := rfl
      rw [st] at h4
      cases y : nnB t E i with
      | true =>
        rw [if_pos y, if_pos (Or.inr (Nat.le_refl _))] at h4
        rw [h4]
        rw [tkK_n k.2.1] at y
        exact bkP_u k h3 rfl rfl (ed_k (Or.inl (of_decide_eq_true y))) fr
      | false =>
        rw [if_neg (by rw [y]; decide)] at h4
        rw [h4]
        exact bkP_t k h3 rfl (skB_id k.2.1).symm w fr
    | succ f ih =>
      intro n S i B e1 k oS hk w h3 fr h4
      have be := tkE_b (t := t) k.2.1
      have kl := tkK_le (t := t) (E := E) (i := i)
      have k5 := k.2.2.2.2.1
      have m := okW_n oS
      have o3 : okW (seR S 3 n) := okW_3 oS (by omega) hk
      have b2 : B 17 2 = n := by have := w.2.1.1; rw [seR_at] at this; exact this
      have b0 : B 18 0 = S 0 := w.1.1.trans (seR_ne (by decide))
      have st : pgS t E (f + 1 + 2) S n i = if nnB t E i = true then (if nmV t E i ((S 0 + 4294967296 - 1) % 4294967296) = 4294967295 ∨ 10 ≤ n then (false, seR S 3 (n + 1), nmE t E i, skB t E i) else pgS t E (f + 2) (seR S (12 + n) (nmV t E i ((S 0 + 4294967296 - 1) % 4294967296))) (n + 1) (nmE t E i)) else (true, seR S 3 n, skB t E i, skB t E i) := rfl
      rw [st] at h4
      have T1 : tI (gu (gu B 24 n (B 258 6)) 17 2 (n + 1)) t E := tI_of k.1 (by rw [gu_row (by decide), gu_row (by decide)]) (by rw [gu_row (by decide), gu_row (by decide)])
      refine w5_8 (t := t) (E := E) (i := i) hp260 ?_
      rw [b2, b0]
      refine ⟨by omega, fun c => absurd c (by omega), fun c => ⟨by omega, fun c1 => ?_, fun c1 => ?_⟩⟩
      · have y : nnB t E i = false := by rw [tkK_n k.2.1]; exact decide_eq_false (by omega)
        rw [if_neg (by rw [y]; decide)] at h4
        refine qz1 (hP B true ?_) rfl
        rw [h4]
        exact bkP_t k h3 rfl (skB_id k.2.1).symm w fr
      · have y : nnB t E i = true := by rw [tkK_n k.2.1]; exact decide_eq_true (by omega)
        rw [if_pos y] at h4
        refine ⟨k, by omega, fun c2 => ?_, fun c2 C h => ?_⟩
        · have nv := nd_t c2
          obtain ⟨k1, v6, ke⟩ := tkN_v k nv
          have nb := nmE_b (t := t) k.2.1
          have vl : nmV t E i ((S 0 + 4294967296 - 1) % 4294967296) < S 0 := by
            rcases nmV_l (t := t) (E := E) (i := i) k.2.1 m.1 with x | x
            · exact absurd x nv
            · exact x
          rw [if_neg (by omega)] at h4
          refine ⟨by omega, T1, ?_, be.2, fun C h => ?_⟩
          · first | exact k.2.2.2.1 | (rw [gu_row (by decide), gu_row (by decide)]; exact k.2.2.2.1)
          · have f7 : ∀ q, q ≠ 24 → q ≠ 17 → q ≠ 258 → C q = B q := fun q a b c => (h.2.1 q c).trans ((gu_row b).trans (gu_row a))
            refine ih (n + 1) (seR S (12 + n) (nmV t E i ((S 0 + 4294967296 - 1) % 4294967296))) (nmE t E i) C (by omega) (by rw [← ke]; exact h.1) (okW_v oS (by omega)) (fun x hx => ?_) ?_ ?_ ?_ h4
            · rw [seR_ne (show 0 ≠ 12 + n by omega)]
              by_cases z : x = n
              · rw [z, seR_at]; exact vl
              · rw [seR_ne (by omega)]; exact hk x (by omega)
            · refine rW_p w o3 (fun x a b => ?_) (fun q a b c => f7 q (by omega) (by omega) (by omega)) (fun x hx => ?_) ⟨?_, fun x hx => ?_⟩
              · rw [seR_ne a, seR_ne (by omega), seR_ne a]
              · rw [h.2.1 17 (by decide), gu_k hx rfl, gu_row (by decide)]
              · rw [h.2.1 17 (by decide), gu_hit, seR_at]
              · rw [seR_at] at hx
                rw [h.2.1 _ (by decide), gu_row (by decide), seR_ne (by omega)]
                show gu B 24 n (B 258 6) 24 x = _
                by_cases z : x = n
                · rw [z, gu_hit, seR_at, v6]
                · rw [gu_k z rfl, seR_ne (by omega)]
                  have := w.2.1.2 x (by rw [seR_at]; omega)
                  rw [seR_ne (by omega)] at this; exact this
            · rw [frR_3 h.2, gu_row (by decide), gu_row (by decide)]; exact h3
            · exact fun q a b => (f7 q (by omega) (by omega) b).trans (fr q a b)
        · have nv := nd_f c2
          rw [if_pos (Or.inl nv)] at h4
          obtain ⟨u1, u2, u3⟩ := ref_k k h
          refine hP C false ?_
          rw [h4]
          exact bkP_f u1 rfl u2 (fun q a b => (u3 q b).trans (fr q a b))
  refine w5 hp260 (L 10 0 R i _ rfl (kI_of p0 (fun k _ => by rw [gu_row (by decide)]) (gu_row (by decide))) p1 (fun k hk => absurd hk (by omega)) ?_ (by rw [gu_row (by decide)]) (fun q a b => gu_row (by omega)) hr)
  refine rW_p p2 p1 (fun x a b => seR_ne a) (fun q a b c => gu_row (by omega)) (fun x hx => gu_k hx rfl) ⟨?_, fun x hx => ?_⟩
  · rw [gu_hit, seR_at]
  · rw [seR_at] at hx; omega
theorem c_readProgram {X : gv_X} {d : Nat} {G : gv_Sh} {A : Nat → Nat → Nat} {j : Nat → Nat → Int64} {cc : gv_Rs} {t : Nat → Nat} {E : Nat} {i : Nat} {R : Nat → Nat} (hp260 : oX0 G 260) (p0 : kI A t E i) (p1 : okW R) (p2 : rW A 17 R) : ∃ A1 : Nat → Nat → Nat, ∃ b1 : Bool, Ev X (d + 3) gvm_5 0 (gv_enter [.ref 260] 1) [] (G, (mI A, j), cc) (.inl (some (.int (zo b1))), (G, (mI A1, j), cc)) ∧ (bkP A A1 t E b1 (pgS t E 12 R 0 i)) := by
  obtain ⟨_, h, A1, b1, rfl, hp⟩ := c_readProgram_p (X := X) (d := d) (G := G) (A := A) (j := j) (cc := cc) (t := t) (E := E) (i := i) (R := R) (P := fun r => ∃ A1 : Nat → Nat → Nat, ∃ b1 : Bool, r = (.inl (some (.int (zo b1))), (G, (mI A1, j), cc)) ∧ (bkP A A1 t E b1 (pgS t E 12 R 0 i))) hp260 p0 p1 p2 (fun A1 b1 h => ⟨A1, b1, rfl, h⟩)
  exact ⟨A1, b1, h, hp⟩
