/-! the class: World, steps -/
theorem mDo_cl {o kind n : Nat} {c : Mc} : (mDo o kind n c).2.2.2.1 = c.2.2.2.1 := by
  unfold mDo
  repeat' split
  all_goals rfl
theorem mRun_cl {o : Nat} {ki nu : Nat → Nat} : ∀ {i k : Nat} {c : Mc}, (mRun o ki nu i k c).2.2.2.1 = c.2.2.2.1
  | 0, _, _ => rfl
  | i + 1, k, c => by
    unfold mRun
    split
    · rfl
    · rw [mRun_cl, mDo_cl]
theorem mOp_cl {o : Nat} {R : Nat → Nat} {p : Nat} {c : Mc} : (mOp o R p c).2.2.2.1 = c.2.2.2.1 := by unfold mOp; rw [mRun_cl]; rfl
theorem rC_ct {A : Nat → Nat → Nat} {c : Nat} {R : Nat → Nat} {g v : Nat} (h : rC A c R g) (hv : v = R 4) : rC (gu (gu A c 2 1) c 0 v) c (ctR R g) g := by
  obtain ⟨h0, h1, h2, h3, h4, h5, h6⟩ := h
  have e : ∀ i, i ≠ 0 → i ≠ 2 → ctR R g (102 + 13 * g + i) = R (102 + 13 * g + i) := fun i a b => by unfold ctR; rw [if_neg (by omega), if_neg (by omega)]
  refine ⟨?_, ?_, ?_, ?_, ?_, ?_, fun k hk => ?_⟩
  · rw [gu_hit]; unfold ctR; rw [if_pos rfl]; exact hv
  · rw [gu_k (by decide) (gu_k (by decide) rfl), e 1 (by decide) (by decide)]; exact h1
  · rw [gu_k (by decide) (gu_hit _ _ _ _)]; unfold ctR; rw [if_neg (by omega), if_pos rfl]
  · rw [gu_k (by decide) (gu_k (by decide) rfl), e 3 (by decide) (by decide)]; exact h3
  · rw [gu_k (by decide) (gu_k (by decide) rfl), e 4 (by decide) (by decide)]; exact h4
  · rw [gu_k (by decide) (gu_k (by decide) rfl)]; exact h5
  · rw [gu_row (by omega), gu_row (by omega), e (5 + k) (by omega) (by omega)]; exact h6 k hk
theorem rC_ck {A : Nat → Nat → Nat} {c : Nat} {R : Nat → Nat} {g t : Nat} (h : rC A c R g) : rC (gu A c 4 ((A c 4 + t) % 8)) c (ckR R g t) g := by
  obtain ⟨h0, h1, h2, h3, h4, h5, h6⟩ := h
  have e : ∀ i, i ≠ 4 → ckR R g t (102 + 13 * g + i) = R (102 + 13 * g + i) := fun i a => by unfold ckR; rw [if_neg (by omega)]
  refine ⟨?_, ?_, ?_, ?_, ?_, ?_, fun k hk => ?_⟩
  · rw [gu_k (by decide) rfl, e 0 (by decide)]; exact h0
  · rw [gu_k (by decide) rfl, e 1 (by decide)]; exact h1
  · rw [gu_k (by decide) rfl, e 2 (by decide)]; exact h2
  · rw [gu_k (by decide) rfl, e 3 (by decide)]; exact h3
  · rw [gu_hit, h4]; unfold ckR; rw [if_pos rfl]
  · rw [gu_k (by decide) rfl]; exact h5
  · rw [gu_row (by omega), e (5 + k) (by omega)]; exact h6 k hk
theorem rC_go {B : Nat → Nat → Nat} {c : Nat} {R : Nat → Nat} {m : Mc} {g b : Nat} (h0 : B c 0 = min 12 (R (102 + 13 * g + 0) + (if m.2.2.2.2.1 = 0 then 1 else 2))) (h1 : B c 1 = m.1) (h2 : B c 2 = R (102 + 13 * g + 2)) (h3 : B c 3 = (m.2.2.1 + 8 - b) % 8) (h4 : B c 4 = R (102 + 13 * g + 4)) (h5 : B c 5 ≤ 1) (h6 : ∀ k, k < 8 → B (c + 1) k = m.2.2.2.2.2 ((k + b) % 8)) : rC B c (goR R m g b) g := by
  refine ⟨?_, ?_, ?_, ?_, ?_, h5, fun k hk => ?_⟩
  · unfold goR; rw [if_pos rfl]; exact h0
  · unfold goR; rw [if_neg (by omega), if_pos rfl]; exact h1
  · unfold goR; rw [if_neg (by omega), if_neg (by omega), if_neg (by omega), if_neg (by omega)]; exact h2
  · unfold goR; rw [if_neg (by omega), if_neg (by omega), if_pos rfl]; exact h3
  · unfold goR; rw [if_neg (by omega), if_neg (by omega), if_neg (by omega), if_neg (by omega)]; exact h4
  · unfold goR; rw [if_neg (by omega), if_neg (by omega), if_neg (by omega), if_pos (by omega), h6 k hk, show 102 + 13 * g + (5 + k) - (102 + 13 * g + 5) + b = k + b by omega]
/-- an op done as it is, by a core -/
theorem rC_do {A B : Nat → Nat → Nat} {c : Nat} {R : Nat → Nat} {g p : Nat} (h : rC A c R g) (o : okW R) (hg : g < 2) (hp : p < 8) (hB : cM B c = mOp 0 R p (cM A c)) (h0 : B c 0 = A c 0) : rC (gu B c 0 (min 12 (B c 0 + (if B c 5 = 0 then 1 else 2)))) c (doR R g p) g := by
  have hm : eqM (cM B c) (mOp 0 R p (gM R g (R (102 + 13 * g + 2)) 0)) := by
    rw [hB]; exact eqM_op (rC_gM h o hg)
  have ok := okM_gd o hg hp
  have hcl : (mOp 0 R p (gM R g (R (102 + 13 * g + 2)) 0)).2.2.2.1 = R (102 + 13 * g + 4) := mOp_cl
  obtain ⟨m, hm0⟩ : ∃ m, m = mOp 0 R p (gM R g (R (102 + 13 * g + 2)) 0) := ⟨_, rfl⟩
  unfold doR
  rw [← hm0] at hm ok hcl ⊢
  have e1 : B c 1 = m.1 := hm.1
  have e2 : B c 2 = m.2.1 := hm.2.1
  have e3 : B c 3 = m.2.2.1 := hm.2.2.1
  have e4 : B c 4 = m.2.2.2.1 := hm.2.2.2.1
  have e5 : B c 5 = m.2.2.2.2.1 := hm.2.2.2.2.1
  have e6 : ∀ k, k < 8 → B (c + 1) k = m.2.2.2.2.2 k := hm.2.2.2.2.2
  have b3 := ok.2.2.1
  have b5 := ok.2.2.2.2.1
  have md : ∀ i, i ≠ 2 → mdR R g m.2.1 (102 + 13 * g + i) = R (102 + 13 * g + i) := fun i hi => by unfold mdR; rw [if_neg (by omega)]
  refine rC_go ?_ ?_ ?_ ?_ ?_ ?_ (fun k hk => ?_)
  · rw [gu_hit, md 0 (by decide), h0, h.1, e5]
  · rw [gu_k (by decide) rfl]; exact e1
  · rw [gu_k (by decide) rfl, e2]; unfold mdR; rw [if_pos rfl]
  · rw [gu_k (by decide) rfl, e3]; omega
  · rw [gu_k (by decide) rfl, e4, hcl, md 4 (by decide)]
  · rw [gu_k (by decide) rfl, e5]; exact b5
  · rw [gu_row (by omega), e6 k hk, show (k + 0) % 8 = k by omega]
/-- turned machines: the reference's and the class's -/
def q4M (b : Nat) (c e : Mc) : Prop := c.1 = e.1 ∧ c.2.1 = e.2.1 ∧ c.2.2.1 = e.2.2.1 ∧ c.2.2.2.1 = e.2.2.2.1 ∧ c.2.2.2.2.1 = e.2.2.2.2.1 ∧ ∀ x, x < 8 → c.2.2.2.2.2 x = e.2.2.2.2.2 ((x + 8 - b) % 8)
theorem q4M_do {b f kind n : Nat} {c e : Mc} (hb : b ≤ 8) (hf : (f + b) % 8 = 0) (h : q4M b c e) : q4M b (mDo 0 kind n c) (mDo f kind n e) := by
  obtain ⟨c1, c2, c3, c4, c5, c6⟩ := c
  obtain ⟨e1, e2, e3, e4, e5, e6⟩ := e
  obtain ⟨h1, h2, h3, h4, h7, h9⟩ := h
  simp only at h1 h2 h3 h4 h7 h9
  subst h1 h2 h3 h4 h7
  refine ten_cases (P := fun kind => q4M b (mDo 0 kind n (c1, c2, c3, c4, c5, c6)) (mDo f kind n (c1, c2, c3, c4, c5, e6))) ?_ ?_ ?_ ?_ ?_ ?_ ?_ ?_ ?_ ?_ ?_ kind
  · exact ⟨rfl, rfl, rfl, rfl, rfl, h9⟩
  · refine ⟨?_, rfl, rfl, rfl, rfl, h9⟩
    show c6 ((n + c3 + 0) % 8) = e6 ((n + c3 + f) % 8)
    rw [h9 _ (by omega)]
    congr 1
    omega
  · refine ⟨rfl, rfl, rfl, rfl, rfl, fun k hk => ?_⟩
    show (if k = (n + c3 + 0) % 8 then c1 else c6 k) = (if (k + 8 - b) % 8 = (n + c3 + f) % 8 then c1 else e6 ((k + 8 - b) % 8))
    rw [h9 k hk]
    by_cases z : k = (n + c3 + 0) % 8
    · rw [if_pos z, if_pos (by omega)]
    · rw [if_neg z, if_neg (by omega)]
  · exact ⟨rfl, rfl, rfl, rfl, rfl, h9⟩
  · exact ⟨rfl, rfl, rfl, rfl, rfl, h9⟩
  · exact ⟨rfl, rfl, rfl, rfl, rfl, h9⟩
  · exact ⟨rfl, rfl, rfl, rfl, rfl, h9⟩
  · exact ⟨rfl, rfl, rfl, rfl, rfl, h9⟩
  · exact ⟨rfl, rfl, rfl, rfl, rfl, h9⟩
  · exact ⟨rfl, rfl, rfl, rfl, rfl, h9⟩
  · intro k hk
    rw [mDo_hi _ hk, mDo_hi _ hk]
    exact ⟨rfl, rfl, rfl, rfl, rfl, h9⟩
theorem q4M_run {b f : Nat} {ki nu : Nat → Nat} (hb : b ≤ 8) (hf : (f + b) % 8 = 0) : ∀ i k c e, q4M b c e → q4M b (mRun 0 ki nu i k c) (mRun f ki nu i k e)
  | 0, _, _, _, h => h
  | i + 1, k, c, e, h => by
    unfold mRun
    rw [h.2.1]
    split
    · exact h
    · exact q4M_run hb hf i (k + 1) _ _ (q4M_do hb hf h)
theorem w96 {X : gv_X} {d : Nat} {G : gv_Sh} {A : Nat → Nat → Nat} {j : Nat → Nat → Int64} {cc : gv_Rs} {P : gv_O × gv_S → Prop} {w : Nat} (hw : oX10 G w) (H : ((A (w + 9) 0) < 4294967296) ∧ ((A w 2 ≤ 10) ∧ (EvP X (d + 3) gvm_96 12 [some (.ref w), some (.int (nI (if (A (w + 9) 0) < A w 2 then A (w + 7) (A (w + 9) 0) else 4294967295)))] [] (G, (mI A, j), cc) P))) : EvP X (d + 3) gvm_96 0 (gv_enter [.ref w] 2) [] (G, (mI A, j), cc) P :=
  (pv_aload_n rfl rfl   (pv_aload_n rfl rfl   (pv_getP rfl rfl (oX10_k hw) (oX10_12 hw)   (pn_getI rfl rfl (oX1_k (oX10_12c hw)) rfl   (pv_virt rfl rfl rfl rfl rfl (oX10_k hw) rfl rfl rfl (c_opAt (c := (A (w + 9) 0)) (w := w) (A := A) hw H.1 H.2.1 ) (pv_istore_n rfl rfl   H.2.2))))))
theorem w96_12 {X : gv_X} {d : Nat} {G : gv_Sh} {A : Nat → Nat → Nat} {j : Nat → Nat → Int64} {cc : gv_Rs} {P : gv_O × gv_S → Prop} {w : Nat} {l1 : Nat} (hw : oX10 G w) (H : (l1 < 4294967296) ∧ (((¬ l1 = 4294967295) → EvP X (d + 3) gvm_96 18 [some (.ref w), some (.int (nI l1))] [] (G, (mI A, j), cc) P) ∧ ((l1 = 4294967295) → P (.inl none, (G, (mI A, j), cc))))) : EvP X (d + 3) gvm_96 12 [some (.ref w), some (.int (nI l1))] [] (G, (mI A, j), cc) P :=
  (pv_iload_n rfl rfl   (pn_iconst (u := 4294967295) rfl (by decide)   (pn_ic_ne rfl H.1 (by decide) (fun c1 => (H.2.1 c1)) (fun c1 => (pv_vret rfl (H.2.2 c1))))))
theorem w96_18 {X : gv_X} {d : Nat} {G : gv_Sh} {A : Nat → Nat → Nat} {j : Nat → Nat → Int64} {cc : gv_Rs} {P : gv_O × gv_S → Prop} {w : Nat} {l1 : Nat} (hw : oX10 G w) (H : (l1 < 4294967296) ∧ (((A (w + 9) 2) < 4294967296) ∧ ((A (w + 1) 0 ≤ 8) ∧ ((∀ z, z < A (w + 1) 0 → A ((w + 1) + 4) z ≤ 1) ∧ (((¬ ((A (w + 9) 2) = 0 ∧ l1 < A (w + 1) 0 ∧ A ((w + 1) + 4) l1 = 1)) → EvP X (d + 3) gvm_96 50 [some (.ref w), some (.int (nI l1))] [] (G, (mI A, j), cc) P) ∧ (((A (w + 9) 2) = 0 ∧ l1 < A (w + 1) 0 ∧ A ((w + 1) + 4) l1 = 1) → (∀ A2 : Nat → Nat → Nat, A2 = (gu (gu A (w + 9) 2 1) (w + 9) 0 (A w 4)) → EvP X (d + 3) gvm_96 70 [some (.ref w), some (.int (nI l1))] [] (G, (mI A2, j), cc) P))))))) : EvP X (d + 3) gvm_96 18 [some (.ref w), some (.int (nI l1))] [] (G, (mI A, j), cc) P :=
  (pv_aload_n rfl rfl   (pv_getP rfl rfl (oX10_k hw) (oX10_0 hw)   (pv_iload_n rfl rfl   (pv_aload_n rfl rfl   (pv_getP rfl rfl (oX10_k hw) (oX10_12 hw)   (pn_getI rfl rfl (oX1_k (oX10_12c hw)) rfl   (pv_virt rfl rfl rfl rfl rfl (oX6_k (oX10_0c hw)) rfl rfl rfl (c_trapsIn (p := l1) (m := (A (w + 9) 2)) (o := (w + 1)) (A := A) (oX10_0c hw) H.1 H.2.1 H.2.2.1 H.2.2.2.1 ) (pv_if_eq_dc rfl  (fun c1 => (H.2.2.2.2.1 c1)) (fun c1 => (pv_aload_n rfl rfl   (pv_getP rfl rfl (oX10_k hw) (oX10_12 hw)   (pv_aload_n rfl rfl   (pn_getI rfl rfl (oX10_k hw) rfl   (match (⟨(gu (gu A (w + 9) 2 1) (w + 9) 0 (A w 4)), rfl⟩ : ∃ Z : Nat → Nat → Nat, Z = (gu (gu A (w + 9) 2 1) (w + 9) 0 (A w 4))) with | ⟨A2, q2⟩ => pv_virt rfl rfl rfl rfl rfl (oX1_k (oX10_12c hw)) rfl rfl rfl (ev_eqM q2 (c_interrupt (v := (A w 4)) (c := (w + 9)) (A := A) (oX10_12c hw) )) (pv_goto rfl ((H.2.2.2.2.2 c1) A2 q2))))))))))))))))
theorem w96_50 {X : gv_X} {d : Nat} {G : gv_Sh} {A : Nat → Nat → Nat} {j : Nat → Nat → Int64} {cc : gv_Rs} {P : gv_O × gv_S → Prop} {w : Nat} {l1 : Nat} (hw : oX10 G w) (H : (l1 < 4294967296) ∧ ((A (w + 1) 0 ≤ 8) ∧ ((∀ z, z < A (w + 1) 0 → A ((w + 1) + 1) z ≤ 3) ∧ ((∀ z i, z < A (w + 1) 0 → i < 3 → A ((w + 1) + 2) (z * 3 + i) < 4294967296 ∧ A ((w + 1) + 3) (z * 3 + i) ≤ 7) ∧ (((w + 9) + 2 ≤ (w + 1) ∨ (w + 1) + 6 ≤ (w + 9)) ∧ ((okM (cM A (w + 9))) ∧ ((∀ A1v1 : Nat → Nat → Nat, ((cM A1v1 (w + 9) = pfC A (w + 1) l1 0 (cM A (w + 9))) ∧ (frC A A1v1 (w + 9))) → EvP X (d + 3) gvm_96 63 [some (.ref w), some (.int (nI l1))] [] (G, (mI A1v1, j), cc) P)))))))) : EvP X (d + 3) gvm_96 50 [some (.ref w), some (.int (nI l1))] [] (G, (mI A, j), cc) P :=
  (pv_aload_n rfl rfl   (pv_getP rfl rfl (oX10_k hw) (oX10_12 hw)   (pv_aload_n rfl rfl   (pv_getP rfl rfl (oX10_k hw) (oX10_0 hw)   (pv_iload_n rfl rfl   (pn_iconst rfl rfl   (match (c_perform (p := l1) (f := 0) (c := (w + 9)) (o := (w + 1)) (A := A) (X := X) (d := d + 0) (G := G) (j := j) (cc := cc) (oX10_12c hw) (oX10_0c hw) H.1 (by decide) H.2.1 H.2.2.1 H.2.2.2.1 H.2.2.2.2.1 H.2.2.2.2.2.1 ) with | ⟨A1v1, e1x60, h1⟩ => pv_virt rfl rfl rfl rfl rfl (oX1_k (oX10_12c hw)) rfl rfl rfl e1x60 (H.2.2.2.2.2.2 A1v1 h1))))))))
theorem w96_63 {X : gv_X} {d : Nat} {G : gv_Sh} {A : Nat → Nat → Nat} {j : Nat → Nat → Int64} {cc : gv_Rs} {P : gv_O × gv_S → Prop} {w : Nat} {l1 : Nat} (hw : oX10 G w) (H : (A (w + 9) 0 ≤ 12) ∧ ((A (w + 9) 5 ≤ 1) ∧ ((∀ A1 : Nat → Nat → Nat, A1 = (gu A (w + 9) 0 (min 12 (A (w + 9) 0 + (if A (w + 9) 5 = 0 then 1 else 2)))) → EvP X (d + 3) gvm_96 70 [some (.ref w), some (.int (nI l1))] [] (G, (mI A1, j), cc) P)))) : EvP X (d + 3) gvm_96 63 [some (.ref w), some (.int (nI l1))] [] (G, (mI A, j), cc) P :=
  (pv_aload_n rfl rfl   (pv_getP rfl rfl (oX10_k hw) (oX10_12 hw)   (match (⟨(gu A (w + 9) 0 (min 12 (A (w + 9) 0 + (if A (w + 9) 5 = 0 then 1 else 2)))), rfl⟩ : ∃ Z : Nat → Nat → Nat, Z = (gu A (w + 9) 0 (min 12 (A (w + 9) 0 + (if A (w + 9) 5 = 0 then 1 else 2))))) with | ⟨A1, q1⟩ => pv_virt rfl rfl rfl rfl rfl (oX1_k (oX10_12c hw)) rfl rfl rfl (ev_eqM q1 (c_goOn (c := (w + 9)) (A := A) (oX10_12c hw) H.1 H.2.1 )) (H.2.2 A1 q1))))
theorem w96_70 {X : gv_X} {d : Nat} {G : gv_Sh} {A : Nat → Nat → Nat} {j : Nat → Nat → Int64} {cc : gv_Rs} {P : gv_O × gv_S → Prop} {w : Nat} {l1 : Nat} (hw : oX10 G w) (H : (∀ A1 : Nat → Nat → Nat, A1 = (gu A (w + 9) 4 ((A (w + 9) 4 + 1) % 8)) → P (.inl none, (G, (mI A1, j), cc)))) : EvP X (d + 3) gvm_96 70 [some (.ref w), some (.int (nI l1))] [] (G, (mI A, j), cc) P :=
  (pv_aload_n rfl rfl   (pv_getP rfl rfl (oX10_k hw) (oX10_12 hw)   (pn_iconst rfl rfl   (match (⟨(gu A (w + 9) 4 ((A (w + 9) 4 + 1) % 8)), rfl⟩ : ∃ Z : Nat → Nat → Nat, Z = (gu A (w + 9) 4 ((A (w + 9) 4 + 1) % 8))) with | ⟨A1, q1⟩ => pv_virt rfl rfl rfl rfl rfl (oX1_k (oX10_12c hw)) rfl rfl rfl (ev_eqM q1 (c_spend (t := 1) (c := (w + 9)) (A := A) (oX10_12c hw) )) (pv_vret rfl (H A1 q1))))))
theorem c_stepBare_p {X : gv_X} {d : Nat} {G : gv_Sh} {A : Nat → Nat → Nat} {j : Nat → Nat → Int64} {cc : gv_Rs} {P : gv_O × gv_S → Prop} {w : Nat} {R : Nat → Nat} (hw : oX10 G w) (p0 : okW R) (p1 : rW A w R) (hP : ∀ A1 : Nat → Nat → Nat, (rW A1 w (baR R)) ∧ (∀ q, q ≠ w + 9 → q ≠ w + 9 + 1 → A1 q = A q) → P (.inl none, (G, (mI A1, j), cc))) : EvP X (d + 3) gvm_96 0 (gv_enter [.ref w] 2) [] (G, (mI A, j), cc) P := by
  have n := okW_n p0
  have g0 := okW_g p0 (g := 0) (by omega)
  have r := p1
  obtain ⟨r1, r2, r3, r4, r5, r6, r7⟩ := p1
  have co := rC_ok r5 p0 (by omega)
  have e0 := r5.1
  have s70 : ∀ B S l1, rW B w S → okW S → (∀ q, q ≠ w + 9 → q ≠ w + 9 + 1 → B q = A q) → ckR S 0 1 = baR R → EvP X (d + 3) gvm_96 70 [some (.ref w), some (.int (nI l1))] [] (G, (mI B, j), cc) P := fun B S l1 h1 h2 h3 h4 =>
    w96_70 hw (fun C q1 => hP C ⟨by
      rw [← h4, q1]
      exact rW_b h1 h2 (fun i hi => by unfold ckR; rw [if_neg (by omega)]) (rC_ck h1.2.2.2.2.1) (fun q a b => gu_row a), fun q a b => by rw [q1, gu_row a]; exact h3 q a b⟩)
  refine w96 hw ⟨by omega, by rw [r2.1]; exact n.2.2.2.1, ?_⟩
  rw [rW_op r, e0]
  by_cases z : R (102 + 13 * 0 + 0) < R 3
  · rw [if_pos z]
    have hpl := okW_pl p0 z
    have hp8 : (R (12 + R (102 + 13 * 0 + 0))) < 8 := by omega
    refine w96_12 hw ⟨by omega, fun c1 => ?_, fun c1 => absurd c1 (by omega)⟩
    have cnd : (A (w + 9) 2 = 0 ∧ (R (12 + R (102 + 13 * 0 + 0))) < A (w + 1) 0 ∧ A (w + 1 + 4) (R (12 + R (102 + 13 * 0 + 0))) = 1) ↔ trp R (R (12 + R (102 + 13 * 0 + 0))) (R (102 + 13 * 0 + 2)) = true := by
      unfold trp
      rw [Bool.and_eq_true, decide_eq_true_eq, decide_eq_true_eq, r5.2.2.1]
      exact ⟨fun y => ⟨(rO_gd r1 hpl).mp y.2, y.1⟩, fun y => ⟨y.2, (rO_gd r1 hpl).mpr y.1⟩⟩
    refine w96_18 hw ⟨by omega, by have := r5.2.2.1; omega, rO_n r1 p0, rO_g r1 p0, fun c2 => ?_, fun c2 B q2 => ?_⟩
    · have tf : trp R (R (12 + R (102 + 13 * 0 + 0))) (R (102 + 13 * 0 + 2)) ≠ true := fun y => c2 (cnd.mpr y)
      have eb : baR R = ckR (doR R 0 (R (12 + R (102 + 13 * 0 + 0)))) 0 1 := by
        unfold baR; rw [if_neg (by omega), if_neg tf]
      refine w96_50 hw ⟨by omega, rO_n r1 p0, rO_s r1 p0, rO_7 r1 p0, by omega, co.1, fun B h1 => w96_63 hw ⟨by rw [h1.2.2]; exact co.2, ?_, fun C q1 => ?_⟩⟩
      · have h2 : okM (cM B (w + 9)) := by rw [h1.1, rO_pf r1 hpl]; exact okM_op p0 hp8 co.1
        exact h2.2.2.2.2.1
      · refine s70 C (doR R 0 (R (12 + R (102 + 13 * 0 + 0)))) _ ?_ (okW_do p0 (by omega) hp8) (fun q a b => by rw [q1, gu_row a]; exact h1.2.1 q a b) eb.symm
        refine rW_b r p0 (fun i hi => ?_) (by rw [q1]; exact rC_do r5 p0 (by omega) hp8 (by rw [h1.1, rO_pf r1 hpl]) h1.2.2) (fun q a b => by rw [q1, gu_row a]; exact h1.2.1 q a b)
        unfold doR goR mdR
        rw [if_neg (by omega), if_neg (by omega), if_neg (by omega), if_neg (by omega), if_neg (by omega)]
    · have eb : baR R = ckR (ctR R 0) 0 1 := by
        unfold baR; rw [if_neg (by omega), if_pos (cnd.mp c2)]
      refine s70 B (ctR R 0) _ ?_ (okW_ct p0 (by omega)) (fun q a b => by rw [q2, gu_row a, gu_row a]) eb.symm
      refine rW_b r p0 (fun i hi => ?_) (by rw [q2]; exact rC_ct r5 r4.1) (fun q a b => by rw [q2, gu_row a, gu_row a])
      unfold ctR
      rw [if_neg (by omega), if_neg (by omega)]
  · rw [if_neg z]
    have eb : baR R = R := by unfold baR; rw [if_pos (by omega)]
    rw [eb] at hP
    exact w96_12 hw ⟨by omega, fun c1 => absurd rfl c1, fun c1 => hP A ⟨r, fun _ _ _ => rfl⟩⟩
theorem c_stepBare {X : gv_X} {d : Nat} {G : gv_Sh} {A : Nat → Nat → Nat} {j : Nat → Nat → Int64} {cc : gv_Rs} {w : Nat} {R : Nat → Nat} (hw : oX10 G w) (p0 : okW R) (p1 : rW A w R) : ∃ A1 : Nat → Nat → Nat, Ev X (d + 3) gvm_96 0 (gv_enter [.ref w] 2) [] (G, (mI A, j), cc) (.inl none, (G, (mI A1, j), cc)) ∧ (rW A1 w (baR R)) ∧ (∀ q, q ≠ w + 9 → q ≠ w + 9 + 1 → A1 q = A q) := by
  obtain ⟨_, h, A1, rfl, hp⟩ := c_stepBare_p (X := X) (d := d) (G := G) (A := A) (j := j) (cc := cc) (w := w) (R := R) (P := fun r => ∃ A1 : Nat → Nat → Nat, r = (.inl none, (G, (mI A1, j), cc)) ∧ (rW A1 w (baR R)) ∧ (∀ q, q ≠ w + 9 → q ≠ w + 9 + 1 → A1 q = A q)) hw p0 p1 (fun A1 h => ⟨A1, rfl, h⟩)
  exact ⟨A1, h, hp⟩
theorem w98 {X : gv_X} {d : Nat} {G : gv_Sh} {A : Nat → Nat → Nat} {j : Nat → Nat → Int64} {cc : gv_Rs} {P : gv_O × gv_S → Prop} {w : Nat} {p : Nat} (hw : oX10 G w) (H : EvP X (d + 3) gvm_98 38 [some (.ref w), some (.int (nI p)), some (.int (nI (A (w + 11) 2))), none] [] (G, (mI (gu (gu A (w + 11) 2 0) (w + 11) 3 (((A (w + 11) 3) + (A w 5)) % 8)), j), cc) P) : EvP X (d + 3) gvm_98 0 (gv_enter [.ref w, .int (nI p)] 4) [] (G, (mI A, j), cc) P :=
  (pv_aload_n rfl rfl   (pv_getP rfl rfl (oX10_k hw) (oX10_13 hw)   (pn_getI rfl rfl (oX1_k (oX10_13c hw)) rfl   (pv_istore_n rfl rfl   (pv_aload_n rfl rfl   (pv_getP rfl rfl (oX10_k hw) (oX10_13 hw)   (pn_iconst rfl rfl   (pn_putI rfl rfl (oX1_k (oX10_13c hw))   (pv_aload_n rfl rfl   (pv_getP rfl rfl (oX10_k hw) (oX10_13 hw)   (pv_aload_n rfl rfl   (pv_getP rfl rfl (oX10_k hw) (oX10_13 hw)   (pn_getI rfl rfl (oX1_k (oX10_13c hw)) (gu_k (by decide) rfl)   (pv_aload_n rfl rfl   (pn_getI rfl rfl (oX10_k hw) (gu_q (by omega) rfl)   (pn_iadd rfl   (pn_bipush rfl rfl   (pn_iandm 3 8 rfl rfl rfl   (pn_putI rfl rfl (oX1_k (oX10_13c hw))   H)))))))))))))))))))
theorem w98_38 {X : gv_X} {d : Nat} {G : gv_Sh} {A : Nat → Nat → Nat} {j : Nat → Nat → Int64} {cc : gv_Rs} {P : gv_O × gv_S → Prop} {w : Nat} {p : Nat} {l2 : Nat} (hw : oX10 G w) (H : ((A w 5) ≤ 4294967296) ∧ ((p < 4294967296) ∧ ((((4294967296 - (A w 5)) % 4294967296) < 4294967296) ∧ ((A (w + 1) 0 ≤ 8) ∧ ((∀ z, z < A (w + 1) 0 → A ((w + 1) + 1) z ≤ 3) ∧ ((∀ z i, z < A (w + 1) 0 → i < 3 → A ((w + 1) + 2) (z * 3 + i) < 4294967296 ∧ A ((w + 1) + 3) (z * 3 + i) ≤ 7) ∧ (((w + 11) + 2 ≤ (w + 1) ∨ (w + 1) + 6 ≤ (w + 11)) ∧ ((okM (cM A (w + 11))) ∧ ((∀ A1v1 : Nat → Nat → Nat, ((cM A1v1 (w + 11) = pfC A (w + 1) p ((4294967296 - (A w 5)) % 4294967296) (cM A (w + 11))) ∧ (frC A A1v1 (w + 11))) → EvP X (d + 3) gvm_98 55 [some (.ref w), some (.int (nI p)), some (.int (nI l2)), none] [] (G, (mI A1v1, j), cc) P)))))))))) : EvP X (d + 3) gvm_98 38 [some (.ref w), some (.int (nI p)), some (.int (nI l2)), none] [] (G, (mI A, j), cc) P :=
  (pv_aload_n rfl rfl   (pv_getP rfl rfl (oX10_k hw) (oX10_13 hw)   (pv_aload_n rfl rfl   (pv_getP rfl rfl (oX10_k hw) (oX10_0 hw)   (pv_iload_n rfl rfl   (pv_aload_n rfl rfl   (pn_getI rfl rfl (oX10_k hw) rfl   (pn_ineg rfl H.1  (match (c_perform (p := p) (f := ((4294967296 - (A w 5)) % 4294967296)) (c := (w + 11)) (o := (w + 1)) (A := A) (X := X) (d := d + 0) (G := G) (j := j) (cc := cc) (oX10_13c hw) (oX10_0c hw) H.2.1 H.2.2.1 H.2.2.2.1 H.2.2.2.2.1 H.2.2.2.2.2.1 H.2.2.2.2.2.2.1 H.2.2.2.2.2.2.2.1 ) with | ⟨A1v1, e1x52, h1⟩ => pv_virt rfl rfl rfl rfl rfl (oX1_k (oX10_13c hw)) rfl rfl rfl e1x52 (H.2.2.2.2.2.2.2.2 A1v1 h1))))))))))
theorem w98_55 {X : gv_X} {d : Nat} {G : gv_Sh} {A : Nat → Nat → Nat} {j : Nat → Nat → Int64} {cc : gv_Rs} {P : gv_O × gv_S → Prop} {w : Nat} {p : Nat} {l2 : Nat} (hw : oX10 G w) (H : (A (w + 11) 0 ≤ 12) ∧ ((A (w + 11) 5 ≤ 1) ∧ ((∀ A1 : Nat → Nat → Nat, A1 = (gu A (w + 11) 0 (min 12 (A (w + 11) 0 + (if A (w + 11) 5 = 0 then 1 else 2)))) → EvP X (d + 3) gvm_98 62 [some (.ref w), some (.int (nI p)), some (.int (nI l2)), none] [] (G, (mI A1, j), cc) P)))) : EvP X (d + 3) gvm_98 55 [some (.ref w), some (.int (nI p)), some (.int (nI l2)), none] [] (G, (mI A, j), cc) P :=
  (pv_aload_n rfl rfl   (pv_getP rfl rfl (oX10_k hw) (oX10_13 hw)   (match (⟨(gu A (w + 11) 0 (min 12 (A (w + 11) 0 + (if A (w + 11) 5 = 0 then 1 else 2)))), rfl⟩ : ∃ Z : Nat → Nat → Nat, Z = (gu A (w + 11) 0 (min 12 (A (w + 11) 0 + (if A (w + 11) 5 = 0 then 1 else 2))))) with | ⟨A1, q1⟩ => pv_virt rfl rfl rfl rfl rfl (oX1_k (oX10_13c hw)) rfl rfl rfl (ev_eqM q1 (c_goOn (c := (w + 11)) (A := A) (oX10_13c hw) H.1 H.2.1 )) (H.2.2 A1 q1))))
theorem w98_62 {X : gv_X} {d : Nat} {G : gv_Sh} {A : Nat → Nat → Nat} {j : Nat → Nat → Int64} {cc : gv_Rs} {P : gv_O × gv_S → Prop} {w : Nat} {p : Nat} {l2 : Nat} (hw : oX10 G w) (H : ((A (w + 11) 2) < 4294967296) ∧ (((¬ (A (w + 11) 2) = 1) → ((A w 5) ≤ 4294967296) ∧ (P (.inl (some (.int (nI 5))), (G, (mI (gu (gu A (w + 11) 2 l2) (w + 11) 3 ((((A (w + 11) 3) + 4294967296 - (A w 5)) % 4294967296) % 8)), j), cc)))) ∧ (((A (w + 11) 2) = 1) → ((A w 5) ≤ 4294967296) ∧ (P (.inl (some (.int (nI 2))), (G, (mI (gu (gu A (w + 11) 2 l2) (w + 11) 3 ((((A (w + 11) 3) + 4294967296 - (A w 5)) % 4294967296) % 8)), j), cc)))))) : EvP X (d + 3) gvm_98 62 [some (.ref w), some (.int (nI p)), some (.int (nI l2)), none] [] (G, (mI A, j), cc) P :=
  (pv_aload_n rfl rfl   (pv_getP rfl rfl (oX10_k hw) (oX10_13 hw)   (pn_getI rfl rfl (oX1_k (oX10_13c hw)) rfl   (pn_iconst rfl rfl   (pn_ic_ne rfl H.1 (by decide) (fun c1 => (pn_iconst rfl rfl   (pv_istore_n rfl rfl   (pv_aload_n rfl rfl   (pv_getP rfl rfl (oX10_k hw) (oX10_13 hw)   (pv_iload_n rfl rfl   (pn_putI rfl rfl (oX1_k (oX10_13c hw))   (pv_aload_n rfl rfl   (pv_getP rfl rfl (oX10_k hw) (oX10_13 hw)   (pv_aload_n rfl rfl   (pv_getP rfl rfl (oX10_k hw) (oX10_13 hw)   (pn_getI rfl rfl (oX1_k (oX10_13c hw)) (gu_k (by decide) rfl)   (pv_aload_n rfl rfl   (pn_getI rfl rfl (oX10_k hw) (gu_q (by omega) rfl)   (pn_isubw rfl (H.2.1 c1).1  (pn_bipush rfl rfl   (pn_iandm 3 8 rfl rfl rfl   (pn_putI rfl rfl (oX1_k (oX10_13c hw))   (pv_iload_n rfl rfl   (pn_if_eq rfl (by decide) (fun _ => (pn_iconst rfl rfl   (pv_ireti rfl rfl (H.2.1 c1).2))) (fun e => absurd e (by decide)))))))))))))))))))))) (fun c1 => (pn_iconst rfl rfl   (pv_goto rfl (pv_istore_n rfl rfl   (pv_aload_n rfl rfl   (pv_getP rfl rfl (oX10_k hw) (oX10_13 hw)   (pv_iload_n rfl rfl   (pn_putI rfl rfl (oX1_k (oX10_13c hw))   (pv_aload_n rfl rfl   (pv_getP rfl rfl (oX10_k hw) (oX10_13 hw)   (pv_aload_n rfl rfl   (pv_getP rfl rfl (oX10_k hw) (oX10_13 hw)   (pn_getI rfl rfl (oX1_k (oX10_13c hw)) (gu_k (by decide) rfl)   (pv_aload_n rfl rfl   (pn_getI rfl rfl (oX10_k hw) (gu_q (by omega) rfl)   (pn_isubw rfl (H.2.2 c1).1  (pn_bipush rfl rfl   (pn_iandm 3 8 rfl rfl rfl   (pn_putI rfl rfl (oX1_k (oX10_13c hw))   (pv_iload_n rfl rfl   (pn_if_eq rfl (by decide) (fun e => absurd e (by decide)) (fun _ => (pn_iconst rfl rfl   (pv_goto rfl (pv_ireti rfl rfl (H.2.2 c1).2))))))))))))))))))))))))))))))
theorem c_letThrough_p {X : gv_X} {d : Nat} {G : gv_Sh} {A : Nat → Nat → Nat} {j : Nat → Nat → Int64} {cc : gv_Rs} {P : gv_O × gv_S → Prop} {w : Nat} {p : Nat} {R : Nat → Nat} (hw : oX10 G w) (p0 : okW R) (p1 : rW A w R) (p2 : p < R 0) (hP : ∀ A1 : Nat → Nat → Nat, (rW A1 w (leR R 1 p)) ∧ (∀ q, q ≠ w + 11 → q ≠ w + 11 + 1 → A1 q = A q) → P (.inl (some (.int (nI (if (mOp 0 R p (gM R 1 0 (R 5))).2.1 = 1 then 2 else 5)))), (G, (mI A1, j), cc))) : EvP X (d + 3) gvm_98 0 (gv_enter [.ref w, .int (nI p)] 4) [] (G, (mI A, j), cc) P := by
  have n := okW_n p0
  have g1 := okW_g p0 (g := 1) (by omega)
  have r := p1
  obtain ⟨r1, r2, r3, r4, r5, r6, r7⟩ := p1
  have co := rC_ok r6 p0 (by omega)
  have hp8 : p < 8 := by omega
  have e5 : A w 5 = R 5 := r4.2.1
  obtain ⟨B, hB⟩ : ∃ B, B = gu (gu A (w + 11) 2 0) (w + 11) 3 ((A (w + 11) 3 + A w 5) % 8) := ⟨_, rfl⟩
  have fB : ∀ q, q ≠ w + 11 → B q = A q := fun q a => by rw [hB, gu_row a, gu_row a]
  have mB : cM B (w + 11) = (A (w + 11) 1, 0, (A (w + 11) 3 + R 5) % 8, A (w + 11) 4, A (w + 11) 5, A (w + 11 + 1)) := by
    rw [hB, cM_3, cM_2, e5]; rfl
  have rB : rO B (w + 1) R := rO_fr r1 (fun a x y => fB a (by omega))
  have oB : okM (cM B (w + 11)) := by
    rw [mB]
    obtain ⟨m1, m2, m3, m4, m5, m6⟩ := co.1
    have m3 : A (w + 11) 3 ≤ 6 ∧ A (w + 11) 3 % 2 = 0 := m3
    exact ⟨m1, Nat.zero_le 1, ⟨by show (A (w + 11) 3 + R 5) % 8 ≤ 6; omega, by show (A (w + 11) 3 + R 5) % 8 % 2 = 0; omega⟩, m4, m5, m6⟩
  have b5 : B w 5 = R 5 := by rw [fB w (by omega)]; exact e5
  refine w98 hw ?_
  rw [← hB]
  refine w98_38 hw ⟨by omega, by omega, by omega, rO_n rB p0, rO_s rB p0, rO_7 rB p0, by omega, oB, fun C hC => ?_⟩
  obtain ⟨f, hf⟩ : ∃ f, f = (4294967296 - B w 5) % 4294967296 := ⟨_, rfl⟩
  rw [← hf, rO_pf rB p2] at hC
  have q4 : q4M (R 5) (mOp 0 R p (gM R 1 0 (R 5))) (cM C (w + 11)) := by
    rw [hC.1, mB]
    unfold mOp
    refine q4M_run (by omega) (by omega) _ _ _ _ ⟨r6.2.1.symm, rfl, ?_, r6.2.2.2.2.1.symm, rfl, fun x hx => ?_⟩
    · show (R (102 + 13 * 1 + 3) + R 5) % 8 = (A (w + 11) 3 + R 5) % 8
      rw [r6.2.2.2.1]
    · show R (102 + 13 * 1 + (5 + (x + 8 - R 5) % 8)) = A (w + 11 + 1) ((x + 8 - R 5) % 8)
      rw [r6.2.2.2.2.2.2 _ (by omega)]
  have om := okM_gl p0 (g := 1) (p := p) (by omega) hp8
  have hcl : (mOp 0 R p (gM R 1 0 (R 5))).2.2.2.1 = R (102 + 13 * 1 + 4) := mOp_cl
  unfold leR at hP
  obtain ⟨m, hm0⟩ : ∃ m, m = (mOp 0 R p (gM R 1 0 (R 5))) := ⟨_, rfl⟩
  rw [← hm0] at q4 om hcl hP
  obtain ⟨k1, k2, k3, k4, k5, k6⟩ := q4
  have k1 : m.1 = C (w + 11) 1 := k1
  have k2 : m.2.1 = C (w + 11) 2 := k2
  have k3 : m.2.2.1 = C (w + 11) 3 := k3
  have k4 : m.2.2.2.1 = C (w + 11) 4 := k4
  have k5 : m.2.2.2.2.1 = C (w + 11) 5 := k5
  have k6 : ∀ x, x < 8 → m.2.2.2.2.2 x = C (w + 11 + 1) ((x + 8 - R 5) % 8) := k6
  have o2 := om.2.1
  have o3 := om.2.2.1
  have o5 := om.2.2.2.2.1
  have c0 : C (w + 11) 0 = A (w + 11) 0 := by rw [hC.2.2, hB, gu_k (by decide) (gu_k (by decide) rfl)]
  refine w98_55 hw ⟨by rw [c0]; exact co.2, by omega, fun D q1 => ?_⟩
  have d : ∀ k, k ≠ 0 → D (w + 11) k = C (w + 11) k := fun k hk => by rw [q1, gu_k hk rfl]
  have d5 : D w 5 = R 5 := by rw [q1, gu_row (by omega), hC.2.1 _ (by omega) (by omega)]; exact b5
  have fin : rW (gu (gu D (w + 11) 2 (A (w + 11) 2)) (w + 11) 3 ((D (w + 11) 3 + 4294967296 - D w 5) % 4294967296 % 8)) w (goR R m 1 (R 5)) ∧ ∀ q, q ≠ w + 11 → q ≠ w + 11 + 1 → gu (gu D (w + 11) 2 (A (w + 11) 2)) (w + 11) 3 ((D (w + 11) 3 + 4294967296 - D w 5) % 4294967296 % 8) q = A q := by
    have fr : ∀ q, q ≠ w + 11 → q ≠ w + 11 + 1 → gu (gu D (w + 11) 2 (A (w + 11) 2)) (w + 11) 3 ((D (w + 11) 3 + 4294967296 - D w 5) % 4294967296 % 8) q = A q := fun q a b => by
      rw [gu_row a, gu_row a, q1, gu_row a, hC.2.1 q a b, fB q a]
    refine ⟨rW_h r p0 (fun i hi => ?_) (rC_go ?_ ?_ ?_ ?_ ?_ ?_ (fun k hk => ?_)) fr, fr⟩
    · unfold goR; rw [if_neg (by omega), if_neg (by omega), if_neg (by omega), if_neg (by omega)]
    · rw [gu_k (by decide) (gu_k (by decide) rfl), q1, gu_hit, c0, r6.1, k5]
    · rw [gu_k (by decide) (gu_k (by decide) rfl), d 1 (by decide), k1]
    · rw [gu_k (by decide) (gu_hit _ _ _ _)]; exact r6.2.2.1
    · rw [gu_hit, d5, d 3 (by decide), ← k3]; omega
    · rw [gu_k (by decide) (gu_k (by decide) rfl), d 4 (by decide), ← k4]; exact hcl
    · rw [gu_k (by decide) (gu_k (by decide) rfl), d 5 (by decide), ← k5]; exact o5
    · rw [gu_row (by omega), gu_row (by omega), q1, gu_row (by omega), k6 _ (by omega)]
      congr 1
      omega
  have d2 : D (w + 11) 2 = m.2.1 := by rw [d 2 (by decide)]; exact k2.symm
  refine w98_62 hw ⟨by rw [d2]; omega, fun c1 => ⟨by rw [d5]; omega, ?_⟩, fun c1 => ⟨by rw [d5]; omega, ?_⟩⟩
  · rw [if_neg (by rw [← d2]; exact c1)] at hP
    exact hP _ fin
  · rw [if_pos (by rw [← d2]; exact c1)] at hP
    exact hP _ fin
theorem c_letThrough {X : gv_X} {d : Nat} {G : gv_Sh} {A : Nat → Nat → Nat} {j : Nat → Nat → Int64} {cc : gv_Rs} {w : Nat} {p : Nat} {R : Nat → Nat} (hw : oX10 G w) (p0 : okW R) (p1 : rW A w R) (p2 : p < R 0) : ∃ A1 : Nat → Nat → Nat, Ev X (d + 3) gvm_98 0 (gv_enter [.ref w, .int (nI p)] 4) [] (G, (mI A, j), cc) (.inl (some (.int (nI (if (mOp 0 R p (gM R 1 0 (R 5))).2.1 = 1 then 2 else 5)))), (G, (mI A1, j), cc)) ∧ (rW A1 w (leR R 1 p)) ∧ (∀ q, q ≠ w + 11 → q ≠ w + 11 + 1 → A1 q = A q) := by
  obtain ⟨_, h, A1, rfl, hp⟩ := c_letThrough_p (X := X) (d := d) (G := G) (A := A) (j := j) (cc := cc) (w := w) (p := p) (R := R) (P := fun r => ∃ A1 : Nat → Nat → Nat, r = (.inl (some (.int (nI (if (mOp 0 R p (gM R 1 0 (R 5))).2.1 = 1 then 2 else 5)))), (G, (mI A1, j), cc)) ∧ (rW A1 w (leR R 1 p)) ∧ (∀ q, q ≠ w + 11 → q ≠ w + 11 + 1 → A1 q = A q)) hw p0 p1 p2 (fun A1 h => ⟨A1, rfl, h⟩)
  exact ⟨A1, h, hp⟩
