/-! the class: Traits, what tells -/
def stO (s h k : Nat) : Mc := if h = 2 then stM s (s / 4 % 2) 0 0 (2 * (s / 8 % 4)) else if h = 1 then stM s 1 (2 * (s / 8 % 4)) 0 0 else stM s (s / 4 % 2) (2 * (s / 8 % 4)) k 0
def frY (A B : Nat → Nat → Nat) : Prop := ∀ q, (q < 57 ∨ 60 < q) → B q = A q
theorem frY_1 {A B : Nat → Nat → Nat} (h : frC A B 57) : frY A B := fun q hq => h.1 q (by omega) (by omega)
theorem frY_2 {A B : Nat → Nat → Nat} (h : frC A B 59) : frY A B := fun q hq => h.1 q (by omega) (by omega)
theorem frY_tr {A B D : Nat → Nat → Nat} (h : frY A B) (h2 : frY B D) : frY A D := fun q hq => (h2 q hq).trans (h q hq)
theorem eqM_0 {c e : Mc} (h : eqM c e) : eqM (mSk0 c) (mSk0 e) := ⟨h.1, h.2.1, h.2.2.1, h.2.2.2.1, rfl, h.2.2.2.2.2⟩
theorem unl_cl (A : Nat → Nat → Nat) (c e t : Nat) : (decide (A c 1 = A e 1) && (decide (A c 5 = A e 5) && clA A c e t)) = !unl t (cM A e) (cM A c) := by
  unfold unl clA
  rw [Bool.not_not, Bool.and_assoc]
  show (decide (A c 1 = A e 1) && (decide (A c 5 = A e 5) && _)) = (decide (A e 1 = A c 1) && (decide (A e 5 = A c 5) && _))
  rw [decide_eq_decide.mpr (eq_comm (a := A c 1) (b := A e 1)), decide_eq_decide.mpr (eq_comm (a := A c 5) (b := A e 5))]
  rfl
theorem cM_fr {A B : Nat → Nat → Nat} {c : Nat} (h : B c = A c) (h2 : B (c + 1) = A (c + 1)) : cM B c = cM A c := by unfold cM; rw [h, h2]
theorem lst_at {f : Nat → Bool} : ∀ {i k x : Nat}, (∀ y, k ≤ y → y < x → f y = false) → f x = true → k ≤ x → x < k + i → lstN f i k = x
  | 0, k, x, _, _, a, b => by omega
  | i + 1, k, x, h, hx, a, b => by
    unfold lstN
    by_cases e : k = x
    · rw [e, if_pos hx]
    · rw [if_neg (by rw [h k (Nat.le_refl _) (by omega)]; decide)]
      exact lst_at (fun y h1 h2 => h y (by omega) h2) hx (by omega) (by omega)
theorem lst_no {f : Nat → Bool} : ∀ {i k : Nat}, (∀ y, k ≤ y → y < k + i → f y = false) → lstN f i k = k + i
  | 0, k, _ => rfl
  | i + 1, k, h => by
    unfold lstN
    rw [if_neg (by rw [h k (Nat.le_refl _) (by omega)]; decide), lst_no (fun y h1 h2 => h y (by omega) (by omega))]
    omega
theorem w88 {X : gv_X} {d : Nat} {G : gv_Sh} {A : Nat → Nat → Nat} {j : Nat → Nat → Int64} {cc : gv_Rs} {P : gv_O × gv_S → Prop} {s : Nat} {h : Nat} {k : Nat} (hp54 : oX9 G 54) (H : (h < 4294967296) ∧ (((¬ h = 2) → (s < 512) ∧ ((∀ A1v1 : Nat → Nat → Nat, ((eqM (cM A1v1 59) (stM s (s / 4 % 2) (2 * (s / 8 % 4)) 0 0)) ∧ (frC A A1v1 59)) → EvP X (d + 2) gvm_88 22 [some (.ref 54), some (.int (nI s)), some (.int (nI h)), some (.int (nI k))] [] (G, (mI A1v1, j), cc) P))) ∧ ((h = 2) → (s < 512) ∧ ((∀ A1v2 : Nat → Nat → Nat, ((eqM (cM A1v2 59) (stM s (s / 4 % 2) 0 0 (2 * (s / 8 % 4)))) ∧ (frC A A1v2 59)) → P (.inl none, (G, (mI A1v2, j), cc))))))) : EvP X (d + 2) gvm_88 0 (gv_enter [.ref 54, .int (nI s), .int (nI h), .int (nI k)] 4) [] (G, (mI A, j), cc) P :=
  (pv_iload_n rfl rfl   (pn_iconst rfl rfl   (pn_ic_ne rfl H.1 (by decide) (fun c1 => (pv_aload_n rfl rfl   (pv_getP rfl rfl (oX9_k hp54) (oX9_3 hp54)   (pv_iload_n rfl rfl   (match (c_toState (s := s) (A := A) (X := X) (d := d + 1) (G := G) (j := j) (cc := cc) (oX9_3c hp54) (H.2.1 c1).1 ) with | ⟨A1v1, e1x19, h2⟩ => pv_virt rfl rfl rfl rfl rfl (oX1_k (oX9_3c hp54)) rfl rfl rfl e1x19 ((H.2.1 c1).2 A1v1 h2)))))) (fun c1 => (pv_aload_n rfl rfl   (pv_getP rfl rfl (oX9_k hp54) (oX9_3 hp54)   (pv_iload_n rfl rfl   (match (c_toStateB (s := s) (A := A) (X := X) (d := d + 0) (G := G) (j := j) (cc := cc) (oX9_3c hp54) (H.2.2 c1).1 ) with | ⟨A1v2, e2x10, h3⟩ => pv_virt rfl rfl rfl rfl rfl (oX1_k (oX9_3c hp54)) rfl rfl rfl e2x10 (pv_vret rfl ((H.2.2 c1).2 A1v2 h3))))))))))
theorem w88_22 {X : gv_X} {d : Nat} {G : gv_Sh} {A : Nat → Nat → Nat} {j : Nat → Nat → Int64} {cc : gv_Rs} {P : gv_O × gv_S → Prop} {s : Nat} {h : Nat} {k : Nat} (hp54 : oX9 G 54) (H : (h < 4294967296) ∧ (((¬ h = 1) → P (.inl none, (G, (mI (gu A 59 4 k), j), cc))) ∧ ((h = 1) → P (.inl none, (G, (mI (gu A 59 2 1), j), cc))))) : EvP X (d + 2) gvm_88 22 [some (.ref 54), some (.int (nI s)), some (.int (nI h)), some (.int (nI k))] [] (G, (mI A, j), cc) P :=
  (pv_iload_n rfl rfl   (pn_iconst rfl rfl   (pn_ic_ne rfl H.1 (by decide) (fun c1 => (pv_aload_n rfl rfl   (pv_getP rfl rfl (oX9_k hp54) (oX9_3 hp54)   (pv_iload_n rfl rfl   (pn_putI rfl rfl (oX1_k (oX9_3c hp54))   (pv_vret rfl (H.2.1 c1))))))) (fun c1 => (pv_aload_n rfl rfl   (pv_getP rfl rfl (oX9_k hp54) (oX9_3 hp54)   (pn_iconst rfl rfl   (pn_putI rfl rfl (oX1_k (oX9_3c hp54))   (pv_goto rfl (pv_vret rfl (H.2.2 c1)))))))))))
theorem c_makeOther_p {X : gv_X} {d : Nat} {G : gv_Sh} {A : Nat → Nat → Nat} {j : Nat → Nat → Int64} {cc : gv_Rs} {P : gv_O × gv_S → Prop} {s : Nat} {h : Nat} {k : Nat} (hp54 : oX9 G 54) (p0 : s < 512) (p1 : h < 4) (p2 : k ≤ 7) (hP : ∀ A1 : Nat → Nat → Nat, (eqM (cM A1 59) (stO s h k)) ∧ (frC A A1 59) → P (.inl none, (G, (mI A1, j), cc))) : EvP X (d + 2) gvm_88 0 (gv_enter [.ref 54, .int (nI s), .int (nI h), .int (nI k)] 4) [] (G, (mI A, j), cc) P := by
  refine w88 hp54 ⟨by omega, fun c1 => ⟨p0, fun B h => ?_⟩, fun c1 => ⟨p0, fun B h => hP B ?_⟩⟩
  · refine w88_22 hp54 ⟨by omega, fun c2 => hP _ ?_, fun c2 => hP _ ?_⟩
    · refine ⟨?_, frC_tr h.2 (frC_f B 59 4 _ (by decide))⟩
      unfold stO
      rw [if_neg c1, if_neg c2, cM_4]
      exact ⟨h.1.1, h.1.2.1, h.1.2.2.1, rfl, h.1.2.2.2.2.1, h.1.2.2.2.2.2⟩
    · refine ⟨?_, frC_tr h.2 (frC_f B 59 2 _ (by decide))⟩
      unfold stO
      rw [if_neg c1, if_pos c2, cM_2]
      exact ⟨h.1.1, rfl, h.1.2.2.1, h.1.2.2.2.1, h.1.2.2.2.2.1, h.1.2.2.2.2.2⟩
  · unfold stO
    rw [if_pos c1]; exact h
theorem c_makeOther {X : gv_X} {d : Nat} {G : gv_Sh} {A : Nat → Nat → Nat} {j : Nat → Nat → Int64} {cc : gv_Rs} {s : Nat} {h : Nat} {k : Nat} (hp54 : oX9 G 54) (p0 : s < 512) (p1 : h < 4) (p2 : k ≤ 7) : ∃ A1 : Nat → Nat → Nat, Ev X (d + 2) gvm_88 0 (gv_enter [.ref 54, .int (nI s), .int (nI h), .int (nI k)] 4) [] (G, (mI A, j), cc) (.inl none, (G, (mI A1, j), cc)) ∧ (eqM (cM A1 59) (stO s h k)) ∧ (frC A A1 59) := by
  obtain ⟨_, h, A1, rfl, hp⟩ := c_makeOther_p (X := X) (d := d) (G := G) (A := A) (j := j) (cc := cc) (s := s) (h := h) (k := k) (P := fun r => ∃ A1 : Nat → Nat → Nat, r = (.inl none, (G, (mI A1, j), cc)) ∧ (eqM (cM A1 59) (stO s h k)) ∧ (frC A A1 59)) hp54 p0 p1 p2 (fun A1 h => ⟨A1, rfl, h⟩)
  exact ⟨A1, h, hp⟩
theorem w87 {X : gv_X} {d : Nat} {G : gv_Sh} {A : Nat → Nat → Nat} {j : Nat → Nat → Int64} {cc : gv_Rs} {P : gv_O × gv_S → Prop} {o : Nat} {p : Nat} {s : Nat} {h : Nat} (hp54 : oX9 G 54) (ho : oX6 G o) (H : (s < 512) ∧ ((∀ A1v1 : Nat → Nat → Nat, ((eqM (cM A1v1 57) (stM s (s / 4 % 2) (2 * (s / 8 % 4)) 0 0)) ∧ (frC A A1v1 57)) → EvP X (d + 3) gvm_87 8 [some (.ref 54), some (.ref o), some (.int (nI p)), some (.int (nI s)), some (.int (nI h)), none, none, none, none] [] (G, (mI A1v1, j), cc) P))) : EvP X (d + 3) gvm_87 0 (gv_enter [.ref 54, .ref o, .int (nI p), .int (nI s), .int (nI h)] 9) [] (G, (mI A, j), cc) P :=
  (pv_aload_n rfl rfl   (pv_getP rfl rfl (oX9_k hp54) (oX9_2 hp54)   (pv_iload_n rfl rfl   (match (c_toState (s := s) (A := A) (X := X) (d := d + 2) (G := G) (j := j) (cc := cc) (oX9_2c hp54) H.1 ) with | ⟨A1v1, e1x5, h1⟩ => pv_virt rfl rfl rfl rfl rfl (oX1_k (oX9_2c hp54)) rfl rfl rfl e1x5 (H.2 A1v1 h1)))))
theorem w87_8 {X : gv_X} {d : Nat} {G : gv_Sh} {A : Nat → Nat → Nat} {j : Nat → Nat → Int64} {cc : gv_Rs} {P : gv_O × gv_S → Prop} {o : Nat} {p : Nat} {s : Nat} {h : Nat} (hp54 : oX9 G 54) (ho : oX6 G o) (H : EvP X (d + 3) gvm_87 26 [some (.ref 54), some (.ref o), some (.int (nI p)), some (.int (nI s)), some (.int (nI h)), some (.int (nI (A 57 2))), some (.int (nI (A 57 3))), none, none] [] (G, (mI A, j), cc) P) : EvP X (d + 3) gvm_87 8 [some (.ref 54), some (.ref o), some (.int (nI p)), some (.int (nI s)), some (.int (nI h)), none, none, none, none] [] (G, (mI A, j), cc) P :=
  (pv_aload_n rfl rfl   (pv_getP rfl rfl (oX9_k hp54) (oX9_2 hp54)   (pn_getI rfl rfl (oX1_k (oX9_2c hp54)) rfl   (pv_istore rfl rfl   (pv_aload_n rfl rfl   (pv_getP rfl rfl (oX9_k hp54) (oX9_2 hp54)   (pn_getI rfl rfl (oX1_k (oX9_2c hp54)) rfl   (pv_istore rfl rfl   H))))))))
theorem w87_26 {X : gv_X} {d : Nat} {G : gv_Sh} {A : Nat → Nat → Nat} {j : Nat → Nat → Int64} {cc : gv_Rs} {P : gv_O × gv_S → Prop} {o : Nat} {p : Nat} {s : Nat} {h : Nat} {l5 : Nat} {l6 : Nat} (hp54 : oX9 G 54) (ho : oX6 G o) (H : (p < 4294967296) ∧ ((l5 < 4294967296) ∧ ((A o 0 ≤ 8) ∧ ((∀ z, z < A o 0 → A (o + 4) z ≤ 1) ∧ (((l5 = 0 ∧ p < A o 0 ∧ A (o + 4) p = 1) → P (.inl (some (.int (nI 0))), (G, (mI A, j), cc))) ∧ ((¬ (l5 = 0 ∧ p < A o 0 ∧ A (o + 4) p = 1)) → (h < 4294967296) ∧ (((¬ h = 1) → EvP X (d + 3) gvm_87 49 [some (.ref 54), some (.ref o), some (.int (nI p)), some (.int (nI s)), some (.int (nI h)), some (.int (nI l5)), some (.int (nI l6)), none, none] [] (G, (mI A, j), cc) P) ∧ ((h = 1) → (l5 < 4294967296) ∧ (((l5 = 0) → EvP X (d + 3) gvm_87 49 [some (.ref 54), some (.ref o), some (.int (nI p)), some (.int (nI s)), some (.int (nI h)), some (.int (nI l5)), some (.int (nI l6)), none, none] [] (G, (mI A, j), cc) P) ∧ ((¬ l5 = 0) → P (.inl (some (.int (nI 0))), (G, (mI A, j), cc)))))))))))) : EvP X (d + 3) gvm_87 26 [some (.ref 54), some (.ref o), some (.int (nI p)), some (.int (nI s)), some (.int (nI h)), some (.int (nI l5)), some (.int (nI l6)), none, none] [] (G, (mI A, j), cc) P :=
  (pv_aload_n rfl rfl   (pv_iload_n rfl rfl   (pv_iload rfl rfl   (pv_virt rfl rfl rfl rfl rfl (oX6_k ho) rfl rfl rfl (c_trapsIn (p := p) (m := l5) (o := o) (A := A) ho H.1 H.2.1 H.2.2.1 H.2.2.2.1 ) (pv_if_ne_dc rfl  (fun c1 => (pn_iconst rfl rfl   (pv_iretz rfl rfl (Or.inl rfl) (H.2.2.2.2.1 c1)))) (fun c1 => (pv_iload rfl rfl   (pn_iconst rfl rfl   (pn_ic_ne rfl (H.2.2.2.2.2 c1).1 (by decide) (fun c2 => ((H.2.2.2.2.2 c1).2.1 c2)) (fun c2 => (pv_iload rfl rfl   (pn_if_eq rfl ((H.2.2.2.2.2 c1).2.2 c2).1 (fun c3 => (((H.2.2.2.2.2 c1).2.2 c2).2.1 c3)) (fun c3 => (pn_iconst rfl rfl   (pv_iretz rfl rfl (Or.inl rfl) (((H.2.2.2.2.2 c1).2.2 c2).2.2 c3))))))))))))))))
theorem w87_49 {X : gv_X} {d : Nat} {G : gv_Sh} {A : Nat → Nat → Nat} {j : Nat → Nat → Int64} {cc : gv_Rs} {P : gv_O × gv_S → Prop} {o : Nat} {p : Nat} {s : Nat} {h : Nat} {l5 : Nat} {l6 : Nat} (hp54 : oX9 G 54) (ho : oX6 G o) (H : (p < 4294967296) ∧ ((A o 0 ≤ 8) ∧ ((∀ z, z < A o 0 → A (o + 1) z ≤ 3) ∧ ((∀ z i, z < A o 0 → i < 3 → A (o + 2) (z * 3 + i) < 4294967296 ∧ A (o + 3) (z * 3 + i) ≤ 7) ∧ ((57 + 2 ≤ o ∨ o + 6 ≤ 57) ∧ ((okM (cM A 57)) ∧ ((∀ A1v1 : Nat → Nat → Nat, ((cM A1v1 57 = pfC A o p 0 (cM A 57)) ∧ (frC A A1v1 57)) → EvP X (d + 3) gvm_87 59 [some (.ref 54), some (.ref o), some (.int (nI p)), some (.int (nI s)), some (.int (nI h)), some (.int (nI l5)), some (.int (nI l6)), none, none] [] (G, (mI A1v1, j), cc) P)))))))) : EvP X (d + 3) gvm_87 49 [some (.ref 54), some (.ref o), some (.int (nI p)), some (.int (nI s)), some (.int (nI h)), some (.int (nI l5)), some (.int (nI l6)), none, none] [] (G, (mI A, j), cc) P :=
  (pv_aload_n rfl rfl   (pv_getP rfl rfl (oX9_k hp54) (oX9_2 hp54)   (pv_aload_n rfl rfl   (pv_iload_n rfl rfl   (pn_iconst rfl rfl   (match (c_perform (p := p) (f := 0) (o := o) (A := A) (X := X) (d := d + 0) (G := G) (j := j) (cc := cc) (oX9_2c hp54) ho H.1 (by decide) H.2.1 H.2.2.1 H.2.2.2.1 H.2.2.2.2.1 H.2.2.2.2.2.1 ) with | ⟨A1v1, e1x56, h1⟩ => pv_virt rfl rfl rfl rfl rfl (oX1_k (oX9_2c hp54)) rfl rfl rfl e1x56 (H.2.2.2.2.2.2 A1v1 h1)))))))
theorem w87_59 {X : gv_X} {d : Nat} {G : gv_Sh} {A : Nat → Nat → Nat} {j : Nat → Nat → Int64} {cc : gv_Rs} {P : gv_O × gv_S → Prop} {o : Nat} {p : Nat} {s : Nat} {h : Nat} {l5 : Nat} {l6 : Nat} (hp54 : oX9 G 54) (ho : oX6 G o) (H : (h < 4294967296) ∧ (((¬ h = 0) → EvP X (d + 3) gvm_87 94 [some (.ref 54), some (.ref o), some (.int (nI p)), some (.int (nI s)), some (.int (nI h)), some (.int (nI l5)), some (.int (nI l6)), none, none] [] (G, (mI A, j), cc) P) ∧ ((h = 0) → ((A 57 2) < 4294967296) ∧ ((l5 < 4294967296) ∧ (((¬ (A 57 2) = l5) → P (.inl (some (.int (nI 1))), (G, (mI A, j), cc))) ∧ (((A 57 2) = l5) → ((A 57 3) < 4294967296) ∧ ((l6 < 4294967296) ∧ ((((A 57 3) = l6) → P (.inl (some (.int (nI 0))), (G, (mI A, j), cc))) ∧ ((¬ (A 57 3) = l6) → P (.inl (some (.int (nI 1))), (G, (mI A, j), cc))))))))))) : EvP X (d + 3) gvm_87 59 [some (.ref 54), some (.ref o), some (.int (nI p)), some (.int (nI s)), some (.int (nI h)), some (.int (nI l5)), some (.int (nI l6)), none, none] [] (G, (mI A, j), cc) P :=
  (pv_iload rfl rfl   (pn_if_ne rfl H.1 (fun c1 => (H.2.1 c1)) (fun c1 => (pv_aload_n rfl rfl   (pv_getP rfl rfl (oX9_k hp54) (oX9_2 hp54)   (pn_getI rfl rfl (oX1_k (oX9_2c hp54)) rfl   (pv_iload rfl rfl   (pn_ic_ne rfl (H.2.2 c1).1 (H.2.2 c1).2.1 (fun c2 => (pn_iconst rfl rfl   (pv_goto rfl (pv_iretz rfl rfl (Or.inr rfl) ((H.2.2 c1).2.2.1 c2))))) (fun c2 => (pv_aload_n rfl rfl   (pv_getP rfl rfl (oX9_k hp54) (oX9_2 hp54)   (pn_getI rfl rfl (oX1_k (oX9_2c hp54)) rfl   (pv_iload rfl rfl   (pn_ic_eq rfl ((H.2.2 c1).2.2.2 c2).1 ((H.2.2 c1).2.2.2 c2).2.1 (fun c3 => (pn_iconst rfl rfl   (pv_iretz rfl rfl (Or.inl rfl) (((H.2.2 c1).2.2.2 c2).2.2.1 c3)))) (fun c3 => (pn_iconst rfl rfl   (pv_goto rfl (pv_iretz rfl rfl (Or.inr rfl) (((H.2.2 c1).2.2.2 c2).2.2.2 c3)))))))))))))))))))
theorem w87_94 {X : gv_X} {d : Nat} {G : gv_Sh} {A : Nat → Nat → Nat} {j : Nat → Nat → Int64} {cc : gv_Rs} {P : gv_O × gv_S → Prop} {o : Nat} {p : Nat} {s : Nat} {h : Nat} {l5 : Nat} {l6 : Nat} (hp54 : oX9 G 54) (ho : oX6 G o) (H : (h < 4294967296) ∧ (((¬ h = 3) → EvP X (d + 3) gvm_87 111 [some (.ref 54), some (.ref o), some (.int (nI p)), some (.int (nI s)), some (.int (nI h)), some (.int (nI l5)), some (.int (nI l6)), some (.int (nI 1)), some (.int (nI 1))] [] (G, (mI A, j), cc) P) ∧ ((h = 3) → EvP X (d + 3) gvm_87 111 [some (.ref 54), some (.ref o), some (.int (nI p)), some (.int (nI s)), some (.int (nI h)), some (.int (nI l5)), some (.int (nI l6)), some (.int (nI 7)), some (.int (nI 1))] [] (G, (mI A, j), cc) P))) : EvP X (d + 3) gvm_87 94 [some (.ref 54), some (.ref o), some (.int (nI p)), some (.int (nI s)), some (.int (nI h)), some (.int (nI l5)), some (.int (nI l6)), none, none] [] (G, (mI A, j), cc) P :=
  (pv_iload rfl rfl   (pn_iconst rfl rfl   (pn_ic_ne rfl H.1 (by decide) (fun c1 => (pn_iconst rfl rfl   (pv_istore rfl rfl   (pn_iconst rfl rfl   (pv_istore rfl rfl   (H.2.1 c1)))))) (fun c1 => (pn_bipush rfl rfl   (pv_goto rfl (pv_istore rfl rfl   (pn_iconst rfl rfl   (pv_istore rfl rfl   (H.2.2 c1))))))))))
theorem w87_111 {X : gv_X} {d : Nat} {G : gv_Sh} {A : Nat → Nat → Nat} {j : Nat → Nat → Int64} {cc : gv_Rs} {P : gv_O × gv_S → Prop} {o : Nat} {p : Nat} {s : Nat} {h : Nat} {l5 : Nat} {l6 : Nat} {l7 : Nat} {l8 : Nat} (hp54 : oX9 G 54) (ho : oX6 G o) (H : (l8 < 2147483648) ∧ ((l7 < 2147483648) ∧ (((l7 < l8) → P (.inl (some (.int (nI 0))), (G, (mI A, j), cc))) ∧ ((l8 ≤ l7) → (s < 512) ∧ ((h < 4) ∧ ((l8 ≤ 7) ∧ ((∀ A1v1 : Nat → Nat → Nat, ((eqM (cM A1v1 59) (stO s h l8)) ∧ (frC A A1v1 59)) → EvP X (d + 3) gvm_87 127 [some (.ref 54), some (.ref o), some (.int (nI p)), some (.int (nI s)), some (.int (nI h)), some (.int (nI l5)), some (.int (nI l6)), some (.int (nI l7)), some (.int (nI l8))] [] (G, (mI A1v1, j), cc) P)))))))) : EvP X (d + 3) gvm_87 111 [some (.ref 54), some (.ref o), some (.int (nI p)), some (.int (nI s)), some (.int (nI h)), some (.int (nI l5)), some (.int (nI l6)), some (.int (nI l7)), some (.int (nI l8))] [] (G, (mI A, j), cc) P :=
  (pv_iload rfl rfl   (pv_iload rfl rfl   (pn_ic_gt rfl H.1 H.2.1 (fun c1 => (pn_iconst rfl rfl   (pv_iretz rfl rfl (Or.inl rfl) (H.2.2.1 c1)))) (fun c1 => (pv_aload_n rfl rfl   (pv_iload_n rfl rfl   (pv_iload rfl rfl   (pv_iload rfl rfl   (match (c_makeOther (s := s) (h := h) (k := l8) (A := A) (X := X) (d := d + 0) (G := G) (j := j) (cc := cc) hp54 (H.2.2.2 c1).1 (H.2.2.2 c1).2.1 (H.2.2.2 c1).2.2.1 ) with | ⟨A1v1, e1x124, h2⟩ => pv_virt rfl rfl rfl rfl rfl (oX9_k hp54) rfl rfl rfl e1x124 ((H.2.2.2 c1).2.2.2 A1v1 h2))))))))))
theorem w87_127 {X : gv_X} {d : Nat} {G : gv_Sh} {A : Nat → Nat → Nat} {j : Nat → Nat → Int64} {cc : gv_Rs} {P : gv_O × gv_S → Prop} {o : Nat} {p : Nat} {s : Nat} {h : Nat} {l5 : Nat} {l6 : Nat} {l7 : Nat} {l8 : Nat} (hp54 : oX9 G 54) (ho : oX6 G o) (H : (p < 4294967296) ∧ ((A o 0 ≤ 8) ∧ ((∀ z, z < A o 0 → A (o + 1) z ≤ 3) ∧ ((∀ z i, z < A o 0 → i < 3 → A (o + 2) (z * 3 + i) < 4294967296 ∧ A (o + 3) (z * 3 + i) ≤ 7) ∧ ((59 + 2 ≤ o ∨ o + 6 ≤ 59) ∧ ((okM (cM A 59)) ∧ ((∀ A1v1 : Nat → Nat → Nat, ((cM A1v1 59 = pfC A o p 0 (cM A 59)) ∧ (frC A A1v1 59)) → EvP X (d + 3) gvm_87 137 [some (.ref 54), some (.ref o), some (.int (nI p)), some (.int (nI s)), some (.int (nI h)), some (.int (nI l5)), some (.int (nI l6)), some (.int (nI l7)), some (.int (nI l8))] [] (G, (mI A1v1, j), cc) P)))))))) : EvP X (d + 3) gvm_87 127 [some (.ref 54), some (.ref o), some (.int (nI p)), some (.int (nI s)), some (.int (nI h)), some (.int (nI l5)), some (.int (nI l6)), some (.int (nI l7)), some (.int (nI l8))] [] (G, (mI A, j), cc) P :=
  (pv_aload_n rfl rfl   (pv_getP rfl rfl (oX9_k hp54) (oX9_3 hp54)   (pv_aload_n rfl rfl   (pv_iload_n rfl rfl   (pn_iconst rfl rfl   (match (c_perform (p := p) (f := 0) (o := o) (A := A) (X := X) (d := d + 0) (G := G) (j := j) (cc := cc) (oX9_3c hp54) ho H.1 (by decide) H.2.1 H.2.2.1 H.2.2.2.1 H.2.2.2.2.1 H.2.2.2.2.2.1 ) with | ⟨A1v1, e1x134, h1⟩ => pv_virt rfl rfl rfl rfl rfl (oX1_k (oX9_3c hp54)) rfl rfl rfl e1x134 (H.2.2.2.2.2.2 A1v1 h1)))))))
theorem w87_137 {X : gv_X} {d : Nat} {G : gv_Sh} {A : Nat → Nat → Nat} {j : Nat → Nat → Int64} {cc : gv_Rs} {P : gv_O × gv_S → Prop} {o : Nat} {p : Nat} {s : Nat} {h : Nat} {l5 : Nat} {l6 : Nat} {l7 : Nat} {l8 : Nat} (hp54 : oX9 G 54) (ho : oX6 G o) (H : (h < 4294967296) ∧ (((¬ h = 2) → EvP X (d + 3) gvm_87 157 [some (.ref 54), some (.ref o), some (.int (nI p)), some (.int (nI s)), some (.int (nI h)), some (.int (nI l5)), some (.int (nI l6)), some (.int (nI l7)), some (.int (nI l8))] [.int (nI 0), .ref 59, .ref 57] (G, (mI A, j), cc) P) ∧ ((h = 2) → EvP X (d + 3) gvm_87 157 [some (.ref 54), some (.ref o), some (.int (nI p)), some (.int (nI s)), some (.int (nI h)), some (.int (nI l5)), some (.int (nI l6)), some (.int (nI l7)), some (.int (nI l8))] [.int (nI l6), .ref 59, .ref 57] (G, (mI A, j), cc) P))) : EvP X (d + 3) gvm_87 137 [some (.ref 54), some (.ref o), some (.int (nI p)), some (.int (nI s)), some (.int (nI h)), some (.int (nI l5)), some (.int (nI l6)), some (.int (nI l7)), some (.int (nI l8))] [] (G, (mI A, j), cc) P :=
  (pv_aload_n rfl rfl   (pv_getP rfl rfl (oX9_k hp54) (oX9_2 hp54)   (pv_aload_n rfl rfl   (pv_getP rfl rfl (oX9_k hp54) (oX9_3 hp54)   (pv_iload rfl rfl   (pn_iconst rfl rfl   (pn_ic_ne rfl H.1 (by decide) (fun c1 => (pn_iconst rfl rfl   (H.2.1 c1))) (fun c1 => (pv_iload rfl rfl   (pv_goto rfl (H.2.2 c1)))))))))))
theorem w87_157 {X : gv_X} {d : Nat} {G : gv_Sh} {A : Nat → Nat → Nat} {j : Nat → Nat → Int64} {cc : gv_Rs} {P : gv_O × gv_S → Prop} {o : Nat} {p : Nat} {s : Nat} {h : Nat} {l5 : Nat} {l6 : Nat} {l7 : Nat} {l8 : Nat} {s2 : Nat} (hp54 : oX9 G 54) (ho : oX6 G o) (H : (s2 ≤ 8) ∧ ((okM (cM A 57)) ∧ ((okM (cM A 59)) ∧ ((((decide (A 57 1 = A 59 1) && (decide (A 57 5 = A 59 5) && clA A 57 59 s2)) = true) → EvP X (d + 3) gvm_87 111 [some (.ref 54), some (.ref o), some (.int (nI p)), some (.int (nI s)), some (.int (nI h)), some (.int (nI l5)), some (.int (nI l6)), some (.int (nI l7)), some (.int (nI (l8 + 1)))] [] (G, (mI A, j), cc) P) ∧ (((decide (A 57 1 = A 59 1) && (decide (A 57 5 = A 59 5) && clA A 57 59 s2)) = false) → P (.inl (some (.int (nI 1))), (G, (mI A, j), cc))))))) : EvP X (d + 3) gvm_87 157 [some (.ref 54), some (.ref o), some (.int (nI p)), some (.int (nI s)), some (.int (nI h)), some (.int (nI l5)), some (.int (nI l6)), some (.int (nI l7)), some (.int (nI l8))] [.int (nI s2), .ref 59, .ref 57] (G, (mI A, j), cc) P :=
  (pv_virt rfl rfl rfl rfl rfl (oX1_k (oX9_2c hp54)) rfl rfl rfl (c_answersLike (t := s2) (A := A) (oX9_2c hp54) (oX9_3c hp54) H.1 H.2.1 H.2.2.1 ) (pv_if_ne_zo rfl  (fun c1 => (pn_iinc rfl rfl rfl rfl   (pv_goto rfl (H.2.2.2.1 c1)))) (fun c1 => (pn_iconst rfl rfl   (pv_iretz rfl rfl (Or.inr rfl) (H.2.2.2.2 c1))))))
theorem c_tells_p {X : gv_X} {d : Nat} {G : gv_Sh} {A : Nat → Nat → Nat} {j : Nat → Nat → Int64} {cc : gv_Rs} {P : gv_O × gv_S → Prop} {o : Nat} {p : Nat} {s : Nat} {h : Nat} {R : Nat → Nat} (hp54 : oX9 G 54) (ho : oX6 G o) (p0 : okW R) (p1 : rO A o R) (p2 : p < R 0) (p3 : s < 512) (p4 : h < 4) (p5 : o + 6 ≤ 54) (hP : ∀ A1 : Nat → Nat → Nat, (frY A A1) → P (.inl (some (.int (zo (trB R p h s)))), (G, (mI A1, j), cc))) : EvP X (d + 3) gvm_87 0 (gv_enter [.ref 54, .ref o, .int (nI p), .int (nI s), .int (nI h)] 9) [] (G, (mI A, j), cc) P := by
  have n0 := rO_n p1 p0
  have hp0 : p < A o 0 := by rw [p1.1]; exact p2
  have opR : ∀ B, frY A B → rO B o R := fun B h => rO_fr p1 (fun a h1 h2 => h a (by omega))
  have m0 : s / 4 % 2 ≤ 1 := by omega
  have ok0 : okM (stM s (s / 4 % 2) (2 * (s / 8 % 4)) 0 0) := okM_st m0 (by omega) (by omega) (by omega)
  have okO : ∀ k, k ≤ 7 → okM (stO s h k) := fun k hk => by
    unfold stO
    split
    · exact okM_st m0 (by omega) (by omega) (by omega)
    split
    · exact okM_st (by omega) (by omega) (by omega) (by omega)
    · exact okM_st m0 (by omega) (by omega) (by omega)
  have ok1 : okM (mOp 0 R p (stM s (s / 4 % 2) (2 * (s / 8 % 4)) 0 0)) := okM_op p0 (by omega) ok0
  have LP : ∀ m, m ≤ 7 → (∀ k, 1 ≤ k → k ≤ m → (unl (if h = 2 then 2 * (s / 8 % 4) else 0) (mOp 0 R p (stO s h k)) (mOp 0 R p (stM s (s / 4 % 2) (2 * (s / 8 % 4)) 0 0))) = true → trB R p h s = true) → ((∀ k, 1 ≤ k → k ≤ m → (unl (if h = 2 then 2 * (s / 8 % 4) else 0) (mOp 0 R p (stO s h k)) (mOp 0 R p (stM s (s / 4 % 2) (2 * (s / 8 % 4)) 0 0))) = false) → trB R p h s = false) → ∀ i k B, k + i = m + 1 → 1 ≤ k → frY A B → eqM (cM B 57) (mOp 0 R p (stM s (s / 4 % 2) (2 * (s / 8 % 4)) 0 0)) → (∀ x, 1 ≤ x → x < k → (unl (if h = 2 then 2 * (s / 8 % 4) else 0) (mOp 0 R p (stO s h x)) (mOp 0 R p (stM s (s / 4 % 2) (2 * (s / 8 % 4)) 0 0))) = false) → EvP X (d + 3) gvm_87 111 [some (.ref 54), some (.ref o), some (.int (nI p)), some (.int (nI s)), some (.int (nI h)), some (.int (nI (s / 4 % 2))), some (.int (nI (2 * (s / 8 % 4)))), some (.int (nI m)), some (.int (nI k))] [] (G, (mI B, j), cc) P := by
    intro m hm hT hF i
    induction i with
    | zero =>
      intro k B hk k1 hf he hx
      exact w87_111 hp54 ho ⟨by omega, by omega, fun c1 => qz0 (hP B hf) (hF (fun x a b => hx x a (by omega))), fun c1 => absurd c1 (by omega)⟩
    | succ i ih =>
      intro k B hk k1 hf he hx
      refine w87_111 hp54 ho ⟨by omega, by omega, fun c1 => absurd c1 (by omega), fun c1 => ⟨p3, p4, by omega, fun C h1 => ?_⟩⟩
      have fC : frY A C := frY_tr hf (frY_2 h1.2)
      have rC := opR C fC
      have e57 : cM C 57 = cM B 57 := cM_fr (h1.2.1 57 (by decide) (by decide)) (h1.2.1 58 (by decide) (by decide))
      refine w87_127 hp54 ho ⟨by omega, rO_n rC p0, rO_s rC p0, rO_7 rC p0, by omega, okM_eq h1.1 (okO k (by omega)), fun D h2 => ?_⟩
      have fD : frY A D := frY_tr fC (frY_2 h2.2)
      have f57 : cM D 57 = cM B 57 := (cM_fr (h2.2.1 57 (by decide) (by decide)) (h2.2.1 58 (by decide) (by decide))).trans e57
      have q57 : eqM (cM D 57) (mOp 0 R p (stM s (s / 4 % 2) (2 * (s / 8 % 4)) 0 0)) := by rw [f57]; exact he
      have q59 : eqM (cM D 59) (mOp 0 R p (stO s h k)) := by
        rw [h2.1, rO_pf rC p2]
        exact eqM_op (eqM_0 h1.1)
      have o59 : okM (cM D 59) := okM_eq q59 (okM_op p0 (by omega) (okO k (by omega)))
      have fin : ∀ t, t = (if h = 2 then 2 * (s / 8 % 4) else 0) → EvP X (d + 3) gvm_87 157 [some (.ref 54), some (.ref o), some (.int (nI p)), some (.int (nI s)), some (.int (nI h)), some (.int (nI (s / 4 % 2))), some (.int (nI (2 * (s / 8 % 4)))), some (.int (nI m)), some (.int (nI k))] [.int (nI t), .ref 59, .ref 57] (G, (mI D, j), cc) P := fun t ht => by
        have eu : (decide (D 57 1 = D 59 1) && (decide (D 57 5 = D 59 5) && clA D 57 59 t)) = !(unl (if h = 2 then 2 * (s / 8 % 4) else 0) (mOp 0 R p (stO s h k)) (mOp 0 R p (stM s (s / 4 % 2) (2 * (s / 8 % 4)) 0 0))) := by
          rw [unl_cl, ← ht, unl_eq q59 q57]
        refine w87_157 hp54 ho ?_
        rw [eu]
        have t8 : t ≤ 8 := by rw [ht]; split <;> omega
        refine ⟨t8, okM_eq q57 ok1, o59, ?_⟩
        cases hu : (unl (if h = 2 then 2 * (s / 8 % 4) else 0) (mOp 0 R p (stO s h k)) (mOp 0 R p (stM s (s / 4 % 2) (2 * (s / 8 % 4)) 0 0))) with
        | true => exact ⟨fun c1 => absurd c1 (by decide), fun c1 => qz1 (hP D fD) (hT k k1 (by omega) hu)⟩
        | false => exact ⟨fun c1 => ih (k + 1) D (by omega) (by omega) fD q57 (fun x a b => by
            by_cases e : x = k
            · rw [e]; exact hu
            · exact hx x a (by omega)), fun c1 => absurd c1 (by decide)⟩
      exact w87_137 hp54 ho ⟨by omega, fun c2 => fin 0 (if_neg c2).symm, fun c2 => fin _ (if_pos c2).symm⟩
  refine w87 hp54 ho ⟨p3, fun B h1 => w87_8 hp54 ho ?_⟩
  have fB : frY A B := frY_1 h1.2
  have rB := opR B fB
  have b2 : B 57 2 = s / 4 % 2 := h1.1.2.1
  have b3 : B 57 3 = 2 * (s / 8 % 4) := h1.1.2.2.1
  rw [b2, b3]
  have tp : (s / 4 % 2 = 0 ∧ p < B o 0 ∧ B (o + 4) p = 1) ↔ trp R p (s / 4 % 2) = true := by
    unfold trp
    rw [Bool.and_eq_true, decide_eq_true_eq, decide_eq_true_eq]
    exact ⟨fun z => ⟨(rO_gd rB p2).mp z.2, z.1⟩, fun z => ⟨z.2, (rO_gd rB p2).mpr z.1⟩⟩
  have hgo : trp R p (s / 4 % 2) = false → (h = 1 → s / 4 % 2 = 0) → EvP X (d + 3) gvm_87 49 [some (.ref 54), some (.ref o), some (.int (nI p)), some (.int (nI s)), some (.int (nI h)), some (.int (nI (s / 4 % 2))), some (.int (nI (2 * (s / 8 % 4)))), none, none] [] (G, (mI B, j), cc) P := by
    intro tf hm1
    refine w87_49 hp54 ho ⟨by omega, rO_n rB p0, rO_s rB p0, rO_7 rB p0, by omega, okM_eq h1.1 ok0, fun C h2 => ?_⟩
    have fC : frY A C := frY_tr fB (frY_1 h2.2)
    have q57 : eqM (cM C 57) (mOp 0 R p (stM s (s / 4 % 2) (2 * (s / 8 % 4)) 0 0)) := by
      rw [h2.1, rO_pf rB p2]
      exact eqM_op (eqM_0 h1.1)
    have k57 := okM_eq q57 ok1
    have e2 : C 57 2 = (mOp 0 R p (stM s (s / 4 % 2) (2 * (s / 8 % 4)) 0 0)).2.1 := q57.2.1
    have e3 : C 57 3 = (mOp 0 R p (stM s (s / 4 % 2) (2 * (s / 8 % 4)) 0 0)).2.2.1 := q57.2.2.1
    have l2 : C 57 2 ≤ 1 := k57.2.1
    have l3 : C 57 3 ≤ 6 := k57.2.2.1.1
    have t0 : h = 0 → trB R p h s = (!decide (C 57 2 = s / 4 % 2) || !decide (C 57 3 = 2 * (s / 8 % 4))) := fun z => by
      rw [e2, e3]
      unfold trB
      rw [if_pos z]
      unfold tr0
      rw [tf]; rfl
    refine w87_59 hp54 ho ⟨by omega, fun c1 => ?_, fun c1 => ⟨by omega, by omega, fun c2 => qz1 (hP C fC) ?_, fun c2 => ⟨by omega, by omega, fun c3 => qz0 (hP C fC) ?_, fun c3 => qz1 (hP C fC) ?_⟩⟩⟩
    · refine w87_94 hp54 ho ⟨by omega, fun c2 => ?_, fun c2 => ?_⟩
      · refine LP 1 (by omega) (fun k a b e => ?_) (fun z => ?_) 1 1 C rfl (by omega) fC q57 (fun x a b => by omega)
        · obtain rfl : k = 1 := by omega
          unfold trB
          rw [if_neg c1]
          by_cases g1 : h = 1
          · rw [if_pos g1]
            unfold stO at e
            rw [if_neg (by omega), if_neg (by omega), if_pos g1] at e
            have m00 := hm1 g1
            rw [m00] at tf
            unfold tr1
            rw [e, tf, m00]; rfl
          · rw [if_neg g1]
            have g2 : h = 2 := by omega
            unfold stO at e
            rw [if_pos g2, if_pos g2] at e
            rw [if_pos g2]
            unfold tr2
            rw [e, tf]; rfl
        · have e := z 1 (by omega) (by omega)
          unfold trB
          rw [if_neg c1]
          by_cases g1 : h = 1
          · rw [if_pos g1]
            unfold stO at e
            rw [if_neg (by omega), if_neg (by omega), if_pos g1] at e
            unfold tr1
            rw [e, Bool.and_false, Bool.and_false]
          · rw [if_neg g1]
            have g2 : h = 2 := by omega
            unfold stO at e
            rw [if_pos g2, if_pos g2] at e
            rw [if_pos g2]
            unfold tr2
            rw [e, Bool.and_false]
      · have eU : ∀ k, (unl (if h = 2 then 2 * (s / 8 % 4) else 0) (mOp 0 R p (stO s h k)) (mOp 0 R p (stM s (s / 4 % 2) (2 * (s / 8 % 4)) 0 0))) = tr3c R p s k := fun k => by
          unfold tr3c stO
          rw [if_neg (by omega), if_neg (by omega), if_neg (by omega)]
        have e3 : trB R p h s = !allN (fun c => !tr3c R p s (c + 1)) 7 := by
          unfold trB
          rw [if_neg (by omega), if_neg (by omega), if_neg (by omega)]
          unfold tr3
          rw [tf]; rfl
        refine LP 7 (by omega) (fun k a b e => ?_) (fun z => ?_) 7 1 C rfl (by omega) fC q57 (fun x a b => by omega)
        · rw [eU] at e
          rw [e3]
          cases hn : allN (fun c => !tr3c R p s (c + 1)) 7 with
          | false => rfl
          | true =>
            have := allN_iff.mp hn (k - 1) (by omega)
            rw [show k - 1 + 1 = k by omega, e] at this
            exact absurd this (by decide)
        · rw [e3, allN_iff.mpr (fun c hc => by rw [← eU, z (c + 1) (by omega) (by omega)]; rfl)]
          rfl
    · rw [t0 c1, decide_eq_false c2]; rfl
    · rw [t0 c1, decide_eq_true c2, decide_eq_true c3]; rfl
    · rw [t0 c1, decide_eq_true c2, decide_eq_false c3]; rfl
  refine w87_26 hp54 ho ⟨by omega, by omega, rO_n rB p0, rO_g rB p0, fun c1 => qz0 (hP B fB) ?_, fun c1 => ?_⟩
  · have t := tp.mp c1
    have t' := t
    unfold trp at t'
    rw [Bool.and_eq_true, decide_eq_true_eq, decide_eq_true_eq] at t'
    have t0 : trp R p 0 = true := by rw [t'.2] at t; exact t
    unfold trB tr0 tr1 tr2 tr3
    rw [t, t0]
    simp
  · have tf : trp R p (s / 4 % 2) = false := by
      rw [Bool.eq_false_iff]; exact fun z => c1 (tp.mpr z)
    refine ⟨by omega, fun c2 => hgo tf (fun z => absurd z c2), fun c2 => ⟨by omega, fun c3 => hgo tf (fun _ => c3), fun c3 => qz0 (hP B fB) ?_⟩⟩
    unfold trB tr1
    rw [if_neg (by omega), if_pos c2, decide_eq_true (show s / 4 % 2 = 1 by omega)]
    rfl
theorem c_tells {X : gv_X} {d : Nat} {G : gv_Sh} {A : Nat → Nat → Nat} {j : Nat → Nat → Int64} {cc : gv_Rs} {o : Nat} {p : Nat} {s : Nat} {h : Nat} {R : Nat → Nat} (hp54 : oX9 G 54) (ho : oX6 G o) (p0 : okW R) (p1 : rO A o R) (p2 : p < R 0) (p3 : s < 512) (p4 : h < 4) (p5 : o + 6 ≤ 54) : ∃ A1 : Nat → Nat → Nat, Ev X (d + 3) gvm_87 0 (gv_enter [.ref 54, .ref o, .int (nI p), .int (nI s), .int (nI h)] 9) [] (G, (mI A, j), cc) (.inl (some (.int (zo (trB R p h s)))), (G, (mI A1, j), cc)) ∧ (frY A A1) := by
  obtain ⟨_, h, A1, rfl, hp⟩ := c_tells_p (X := X) (d := d) (G := G) (A := A) (j := j) (cc := cc) (o := o) (p := p) (s := s) (h := h) (R := R) (P := fun r => ∃ A1 : Nat → Nat → Nat, r = (.inl (some (.int (zo (trB R p h s)))), (G, (mI A1, j), cc)) ∧ (frY A A1)) hp54 ho p0 p1 p2 p3 p4 p5 (fun A1 h => ⟨A1, rfl, h⟩)
  exact ⟨A1, h, hp⟩
