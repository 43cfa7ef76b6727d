/-! the class: World, ticks, leaks -/
theorem se_comm (R : Nat → Nat) (a b : Nat) : seR (seR R 8 a) 9 b = seR (seR R 9 b) 8 a := by
  funext i
  unfold seR
  repeat' split
  all_goals first | rfl | omega
theorem tbF_XX {R S : Nat → Nat} (o : okW R) (e : eqX R S) {p : Nat} (hp : p < R 0) : tbF S p = tbF R p := tbF_S o (eqX_S e) (by have := (okW_n o).1; omega)
def frW (A B : Nat → Nat → Nat) (w : Nat) : Prop := ∀ q, (q < w ∨ w + 14 < q) → (q < 61 ∨ 63 < q) → B q = A q
theorem frW_tr {A B C : Nat → Nat → Nat} {w : Nat} (h : frW A B w) (h2 : frW B C w) : frW A C w := fun q a b => (h2 q a b).trans (h q a b)
theorem lkN_halt {T : Nat → Nat} {R : Nat → Nat} (h0 : R 3 ≤ R (102 + 13 * 0 + 0)) (h1 : R 3 ≤ R (102 + 13 * 1 + 0)) (ha : alk R = true) : ∀ i n, lkN T i n R = 4294967295
  | 0, _ => rfl
  | i + 1, n => by
    have e0 : baR R = R := by unfold baR; rw [if_pos h0]
    have e1 : hoR R T = R := by unfold hoR; rw [if_pos h1]
    unfold lkN
    rw [e0, e1, if_pos ha]
    exact lkN_halt h0 h1 ha i (n + 1)
theorem alk_bo (R : Nat → Nat) : alk (boR R) = true := by
  unfold alk alN
  rw [allN_iff]
  intro k hk
  have hb : ∀ g i, g < 2 → i < 13 → boR R (102 + 13 * g + i) = (if i = 2 then 1 else if i < 5 then 0 else R (22 + (i - 5))) := by
    intro g i hg hi
    unfold boR boN boV
    rw [if_pos (by omega), show (102 + 13 * g + i - 102) % 13 = i by omega]
  rw [hb 0 k (by omega) hk, hb 1 k (by omega) hk]
  simp
theorem w101 {X : gv_X} {d : Nat} {G : gv_Sh} {A : Nat → Nat → Nat} {j : Nat → Nat → Int64} {cc : gv_Rs} {P : gv_O × gv_S → Prop} {w : Nat} (hw : oX10 G w) (hp47 : oX4 G 47) (H : (∀ A1 : Nat → Nat → Nat, A1 = (gu A w 10 (sdN (A w 10))) → ((sdN (A w 10) / 65536 % 32768) < 2147483648) ∧ ((((sdN (A w 10) / 65536 % 32768) % 100) < 2147483648) ∧ (((A1 w 7) < 2147483648) ∧ ((((A1 w 7) ≤ ((sdN (A w 10) / 65536 % 32768) % 100)) → EvP X (d + 5) gvm_101 20 [some (.ref w), some (.ref 47), some (.int (nI 0)), none, none, none, none] [] (G, (mI A1, j), cc) P) ∧ ((((sdN (A w 10) / 65536 % 32768) % 100) < (A1 w 7)) → EvP X (d + 5) gvm_101 20 [some (.ref w), some (.ref 47), some (.int (nI 1)), none, none, none, none] [] (G, (mI A1, j), cc) P)))))) : EvP X (d + 5) gvm_101 0 (gv_enter [.ref w, .ref 47] 7) [] (G, (mI A, j), cc) P :=
  (pv_aload_n rfl rfl   (match (⟨(gu A w 10 (sdN (A w 10))), rfl⟩ : ∃ Z : Nat → Nat → Nat, Z = (gu A w 10 (sdN (A w 10)))) with | ⟨A1, q1⟩ => pv_virt rfl rfl rfl rfl rfl (oX10_k hw) rfl rfl rfl (ev_eqM q1 (c_draw (w := w) (A := A) hw )) (pn_bipush rfl rfl   (pn_irem rfl (H A1 q1).1 (by decide) (by decide)  (pv_aload_n rfl rfl   (pn_getI rfl rfl (oX10_k hw) rfl   (pn_ic_ge rfl (H A1 q1).2.1 (H A1 q1).2.2.1 (fun c2 => (pn_iconst rfl rfl   (pv_istore_n rfl rfl   ((H A1 q1).2.2.2.1 c2)))) (fun c2 => (pn_iconst rfl rfl   (pv_goto rfl (pv_istore_n rfl rfl   ((H A1 q1).2.2.2.2 c2))))))))))))
theorem w101_20 {X : gv_X} {d : Nat} {G : gv_Sh} {A : Nat → Nat → Nat} {j : Nat → Nat → Int64} {cc : gv_Rs} {P : gv_O × gv_S → Prop} {w : Nat} {l2 : Nat} {R : Nat → Nat} (hw : oX10 G w) (hp47 : oX4 G 47) (H : (okW R) ∧ ((rW A w R) ∧ (EvP X (d + 5) gvm_101 25 [some (.ref w), some (.ref 47), some (.int (nI l2)), some (.int (zo (alk R))), none, none, none] [] (G, (mI A, j), cc) P))) : EvP X (d + 5) gvm_101 20 [some (.ref w), some (.ref 47), some (.int (nI l2)), none, none, none, none] [] (G, (mI A, j), cc) P :=
  (pv_aload_n rfl rfl   (pv_virt rfl rfl rfl rfl rfl (oX10_k hw) rfl rfl rfl (c_viewsAlike (R := R) (w := w) (A := A) hw H.1 H.2.1 ) (pv_istore_n rfl rfl   H.2.2)))
theorem w101_25 {X : gv_X} {d : Nat} {G : gv_Sh} {A : Nat → Nat → Nat} {j : Nat → Nat → Int64} {cc : gv_Rs} {P : gv_O × gv_S → Prop} {w : Nat} {l2 : Nat} {l3 : Bool} (hw : oX10 G w) (hp47 : oX4 G 47) (H : EvP X (d + 5) gvm_101 34 [some (.ref w), some (.ref 47), some (.int (nI l2)), some (.int (zo l3)), some (.int (nI (A (w + 11) 0))), none, none] [] (G, (mI A, j), cc) P) : EvP X (d + 5) gvm_101 25 [some (.ref w), some (.ref 47), some (.int (nI l2)), some (.int (zo l3)), none, none, none] [] (G, (mI A, j), cc) P :=
  (pv_aload_n rfl rfl   (pv_getP rfl rfl (oX10_k hw) (oX10_13 hw)   (pn_getI rfl rfl (oX1_k (oX10_13c hw)) rfl   (pv_istore rfl rfl   H))))
theorem w101_34 {X : gv_X} {d : Nat} {G : gv_Sh} {A : Nat → Nat → Nat} {j : Nat → Nat → Int64} {cc : gv_Rs} {P : gv_O × gv_S → Prop} {w : Nat} {l2 : Nat} {l3 : Bool} {l4 : Nat} (hw : oX10 G w) (hp47 : oX4 G 47) (H : (l2 < 4294967296) ∧ (((l2 = 0) → (l4 < 4294967296) ∧ ((A w 2 ≤ 10) ∧ (EvP X (d + 5) gvm_101 50 [some (.ref w), some (.ref 47), some (.int (nI l2)), some (.int (zo l3)), some (.int (nI l4)), some (.int (nI (if l4 < A w 2 then A (w + 7) l4 else 4294967295))), none] [] (G, (mI A, j), cc) P))) ∧ ((¬ l2 = 0) → EvP X (d + 5) gvm_101 50 [some (.ref w), some (.ref 47), some (.int (nI l2)), some (.int (zo l3)), some (.int (nI l4)), some (.int (nI 4294967295)), none] [] (G, (mI A, j), cc) P))) : EvP X (d + 5) gvm_101 34 [some (.ref w), some (.ref 47), some (.int (nI l2)), some (.int (zo l3)), some (.int (nI l4)), none, none] [] (G, (mI A, j), cc) P :=
  (pv_iload_n rfl rfl   (pn_if_eq rfl H.1 (fun c1 => (pv_aload_n rfl rfl   (pv_iload rfl rfl   (pv_virt rfl rfl rfl rfl rfl (oX10_k hw) rfl rfl rfl (c_opAt (c := l4) (w := w) (A := A) hw (H.2.1 c1).1 (H.2.1 c1).2.1 ) (pv_istore rfl rfl   (H.2.1 c1).2.2))))) (fun c1 => (pn_iconst (u := 4294967295) rfl (by decide)   (pv_goto rfl (pv_istore rfl rfl   (H.2.2 c1)))))))
theorem w101_50 {X : gv_X} {d : Nat} {G : gv_Sh} {A : Nat → Nat → Nat} {j : Nat → Nat → Int64} {cc : gv_Rs} {P : gv_O × gv_S → Prop} {w : Nat} {l2 : Nat} {l3 : Bool} {l4 : Nat} {l5 : Nat} (hw : oX10 G w) (hp47 : oX4 G 47) (H : (l2 < 4294967296) ∧ (((l2 = 0) → EvP X (d + 5) gvm_101 82 [some (.ref w), some (.ref 47), some (.int (nI l2)), some (.int (zo l3)), some (.int (nI l4)), some (.int (nI l5)), none] [] (G, (mI A, j), cc) P) ∧ ((¬ l2 = 0) → EvP X (d + 5) gvm_101 54 [some (.ref w), some (.ref 47), some (.int (nI l2)), some (.int (zo l3)), some (.int (nI l4)), some (.int (nI l5)), none] [] (G, (mI A, j), cc) P))) : EvP X (d + 5) gvm_101 50 [some (.ref w), some (.ref 47), some (.int (nI l2)), some (.int (zo l3)), some (.int (nI l4)), some (.int (nI l5)), none] [] (G, (mI A, j), cc) P :=
  (pv_iload_n rfl rfl   (pn_if_eq rfl H.1 (fun c1 => (H.2.1 c1)) (fun c1 => (H.2.2 c1))))
theorem w101_54 {X : gv_X} {d : Nat} {G : gv_Sh} {A : Nat → Nat → Nat} {j : Nat → Nat → Int64} {cc : gv_Rs} {P : gv_O × gv_S → Prop} {w : Nat} {l2 : Nat} {l3 : Bool} {l4 : Nat} {l5 : Nat} (hw : oX10 G w) (hp47 : oX4 G 47) (H : (∀ A1 : Nat → Nat → Nat, A1 = (gu (gu A (w + 9) 2 1) (w + 9) 0 (A w 4)) → (∀ A2 : Nat → Nat → Nat, A2 = (gu (gu A1 (w + 11) 2 1) (w + 11) 0 (A1 w 4)) → EvP X (d + 5) gvm_101 93 [some (.ref w), some (.ref 47), some (.int (nI l2)), some (.int (zo l3)), some (.int (nI l4)), some (.int (nI l5)), some (.int (nI 4))] [] (G, (mI A2, j), cc) P))) : EvP X (d + 5) gvm_101 54 [some (.ref w), some (.ref 47), some (.int (nI l2)), some (.int (zo l3)), some (.int (nI l4)), some (.int (nI l5)), none] [] (G, (mI A, j), cc) P :=
  (pv_aload_n rfl rfl   (pv_getP rfl rfl (oX10_k hw) (oX10_12 hw)   (pv_aload_n rfl rfl   (pn_getI rfl rfl (oX10_k hw) rfl   (match (⟨(gu (gu A (w + 9) 2 1) (w + 9) 0 (A w 4)), rfl⟩ : ∃ Z : Nat → Nat → Nat, Z = (gu (gu A (w + 9) 2 1) (w + 9) 0 (A w 4))) with | ⟨A1, q1⟩ => pv_virt rfl rfl rfl rfl rfl (oX1_k (oX10_12c hw)) rfl rfl rfl (ev_eqM q1 (c_interrupt (v := (A w 4)) (c := (w + 9)) (A := A) (oX10_12c hw) )) (pv_aload_n rfl rfl   (pv_getP rfl rfl (oX10_k hw) (oX10_13 hw)   (pv_aload_n rfl rfl   (pn_getI rfl rfl (oX10_k hw) rfl   (match (⟨(gu (gu A1 (w + 11) 2 1) (w + 11) 0 (A1 w 4)), rfl⟩ : ∃ Z : Nat → Nat → Nat, Z = (gu (gu A1 (w + 11) 2 1) (w + 11) 0 (A1 w 4))) with | ⟨A2, q2⟩ => pv_virt rfl rfl rfl rfl rfl (oX1_k (oX10_13c hw)) rfl rfl rfl (ev_eqM q2 (c_interrupt (v := (A1 w 4)) (c := (w + 11)) (A := A1) (oX10_13c hw) )) (pn_iconst rfl rfl   (pv_istore rfl rfl   (pv_goto rfl ((H A1 q1) A2 q2))))))))))))))
theorem w101_82 {X : gv_X} {d : Nat} {G : gv_Sh} {A : Nat → Nat → Nat} {j : Nat → Nat → Int64} {cc : gv_Rs} {P : gv_O × gv_S → Prop} {w : Nat} {l2 : Nat} {l3 : Bool} {l4 : Nat} {l5 : Nat} {R : Nat → Nat} (hw : oX10 G w) (hp47 : oX4 G 47) (H : (okW R) ∧ ((rW A w R) ∧ ((∀ A1v1 : Nat → Nat → Nat, ((rW A1v1 w (baR R)) ∧ (∀ q, q ≠ w + 9 → q ≠ w + 9 + 1 → A1v1 q = A q)) → EvP X (d + 5) gvm_101 86 [some (.ref w), some (.ref 47), some (.int (nI l2)), some (.int (zo l3)), some (.int (nI l4)), some (.int (nI l5)), none] [] (G, (mI A1v1, j), cc) P)))) : EvP X (d + 5) gvm_101 82 [some (.ref w), some (.ref 47), some (.int (nI l2)), some (.int (zo l3)), some (.int (nI l4)), some (.int (nI l5)), none] [] (G, (mI A, j), cc) P :=
  (pv_aload_n rfl rfl   (match (c_stepBare (R := R) (w := w) (A := A) (X := X) (d := d + 1) (G := G) (j := j) (cc := cc) hw H.1 H.2.1 ) with | ⟨A1v1, e1x83, h1⟩ => pv_virt rfl rfl rfl rfl rfl (oX10_k hw) rfl rfl rfl e1x83 (H.2.2 A1v1 h1)))
theorem w101_86 {X : gv_X} {d : Nat} {G : gv_Sh} {A : Nat → Nat → Nat} {j : Nat → Nat → Int64} {cc : gv_Rs} {P : gv_O × gv_S → Prop} {w : Nat} {l2 : Nat} {l3 : Bool} {l4 : Nat} {l5 : Nat} {R : Nat → Nat} (hw : oX10 G w) (hp47 : oX4 G 47) (H : (okW R) ∧ ((rW A w R) ∧ ((lg A R) ∧ ((w + 15 ≤ 47) ∧ ((∀ A1v1 : Nat → Nat → Nat, ((rW A1v1 w (hoR R (tbF R))) ∧ (lg A1v1 R) ∧ (∀ q, q ≠ w + 11 → q ≠ w + 11 + 1 → (q < 61 ∨ 63 < q) → A1v1 q = A q)) → EvP X (d + 5) gvm_101 91 [some (.ref w), some (.ref 47), some (.int (nI l2)), some (.int (zo l3)), some (.int (nI l4)), some (.int (nI l5)), none] [.int (nI (caN R))] (G, (mI A1v1, j), cc) P)))))) : EvP X (d + 5) gvm_101 86 [some (.ref w), some (.ref 47), some (.int (nI l2)), some (.int (zo l3)), some (.int (nI l4)), some (.int (nI l5)), none] [] (G, (mI A, j), cc) P :=
  (pv_aload_n rfl rfl   (pv_aload_n rfl rfl   (match (c_stepHosted (R := R) (w := w) (A := A) (X := X) (d := d + 0) (G := G) (j := j) (cc := cc) hw hp47 H.1 H.2.1 H.2.2.1 H.2.2.2.1 ) with | ⟨A1v1, e1x88, h1⟩ => pv_virt rfl rfl rfl rfl rfl (oX10_k hw) rfl rfl rfl e1x88 (H.2.2.2.2 A1v1 h1))))
theorem w101_91 {X : gv_X} {d : Nat} {G : gv_Sh} {A : Nat → Nat → Nat} {j : Nat → Nat → Int64} {cc : gv_Rs} {P : gv_O × gv_S → Prop} {w : Nat} {l2 : Nat} {l3 : Bool} {l4 : Nat} {l5 : Nat} {s0 : Nat} (hw : oX10 G w) (hp47 : oX4 G 47) (H : EvP X (d + 5) gvm_101 93 [some (.ref w), some (.ref 47), some (.int (nI l2)), some (.int (zo l3)), some (.int (nI l4)), some (.int (nI l5)), some (.int (nI s0))] [] (G, (mI A, j), cc) P) : EvP X (d + 5) gvm_101 91 [some (.ref w), some (.ref 47), some (.int (nI l2)), some (.int (zo l3)), some (.int (nI l4)), some (.int (nI l5)), none] [.int (nI s0)] (G, (mI A, j), cc) P :=
  (pv_istore rfl rfl   H)
theorem w101_93 {X : gv_X} {d : Nat} {G : gv_Sh} {A : Nat → Nat → Nat} {j : Nat → Nat → Int64} {cc : gv_Rs} {P : gv_O × gv_S → Prop} {w : Nat} {l2 : Nat} {l3 : Bool} {l4 : Nat} {l5 : Nat} {l6 : Nat} (hw : oX10 G w) (hp47 : oX4 G 47) (H : (l6 < 4294967296) ∧ (((l6 = 4294967295) → EvP X (d + 5) gvm_101 122 [some (.ref w), some (.ref 47), some (.int (nI l2)), some (.int (zo l3)), some (.int (nI l4)), some (.int (nI l5)), some (.int (nI l6))] [] (G, (mI A, j), cc) P) ∧ ((¬ l6 = 4294967295) → (l6 < 4294967296) ∧ (((l6 = 5) → EvP X (d + 5) gvm_101 122 [some (.ref w), some (.ref 47), some (.int (nI l2)), some (.int (zo l3)), some (.int (nI l4)), some (.int (nI l5)), some (.int (nI l6))] [] (G, (mI A, j), cc) P) ∧ ((¬ l6 = 5) → EvP X (d + 5) gvm_101 105 [some (.ref w), some (.ref 47), some (.int (nI l2)), some (.int (zo l3)), some (.int (nI l4)), some (.int (nI l5)), some (.int (nI l6))] [] (G, (mI A, j), cc) P))))) : EvP X (d + 5) gvm_101 93 [some (.ref w), some (.ref 47), some (.int (nI l2)), some (.int (zo l3)), some (.int (nI l4)), some (.int (nI l5)), some (.int (nI l6))] [] (G, (mI A, j), cc) P :=
  (pv_iload rfl rfl   (pn_iconst (u := 4294967295) rfl (by decide)   (pn_ic_eq rfl H.1 (by decide) (fun c1 => (H.2.1 c1)) (fun c1 => (pv_iload rfl rfl   (pn_iconst rfl rfl   (pn_ic_eq rfl (H.2.2 c1).1 (by decide) (fun c2 => ((H.2.2 c1).2.1 c2)) (fun c2 => ((H.2.2 c1).2.2 c2)))))))))
theorem w101_105 {X : gv_X} {d : Nat} {G : gv_Sh} {A : Nat → Nat → Nat} {j : Nat → Nat → Int64} {cc : gv_Rs} {P : gv_O × gv_S → Prop} {w : Nat} {l2 : Nat} {l3 : Bool} {l4 : Nat} {l5 : Nat} {l6 : Nat} {R : Nat → Nat} (hw : oX10 G w) (hp47 : oX4 G 47) (H : (okW R) ∧ ((rL A (w + 13) R) ∧ (((A w 8) = R 8) ∧ ((∀ A1v1 : Nat → Nat → Nat, ((rL A1v1 (w + 13) (toR R l5 l6 l4)) ∧ (∀ q, q ≠ (w + 13) → q ≠ (w + 13) + 1 → A1v1 q = A q)) → EvP X (d + 5) gvm_101 122 [some (.ref w), some (.ref 47), some (.int (nI l2)), some (.int (zo l3)), some (.int (nI l4)), some (.int (nI l5)), some (.int (nI l6))] [] (G, (mI A1v1, j), cc) P))))) : EvP X (d + 5) gvm_101 105 [some (.ref w), some (.ref 47), some (.int (nI l2)), some (.int (zo l3)), some (.int (nI l4)), some (.int (nI l5)), some (.int (nI l6))] [] (G, (mI A, j), cc) P :=
  (pv_aload_n rfl rfl   (pv_getP rfl rfl (oX10_k hw) (oX10_14 hw)   (pv_aload_n rfl rfl   (pn_getI rfl rfl (oX10_k hw) rfl   (pv_iload rfl rfl   (pv_iload rfl rfl   (pv_iload rfl rfl   (match (c_logAdd (tk := (A w 8)) (p := l5) (kd := l6) (pc := l4) (R := R) (l := (w + 13)) (A := A) (X := X) (d := d + 3) (G := G) (j := j) (cc := cc) (oX10_14c hw) H.1 H.2.1 H.2.2.1 ) with | ⟨A1v1, e1x119, h1⟩ => pv_virt rfl rfl rfl rfl rfl (oX5_k (oX10_14c hw)) rfl rfl rfl e1x119 (H.2.2.2 A1v1 h1)))))))))
theorem w101_122 {X : gv_X} {d : Nat} {G : gv_Sh} {A : Nat → Nat → Nat} {j : Nat → Nat → Int64} {cc : gv_Rs} {P : gv_O × gv_S → Prop} {w : Nat} {l2 : Nat} {l3 : Bool} {l4 : Nat} {l5 : Nat} {l6 : Nat} {R : Nat → Nat} (hw : oX10 G w) (hp47 : oX4 G 47) (H : ((l3 = false) → EvP X (d + 5) gvm_101 149 [some (.ref w), some (.ref 47), some (.int (nI l2)), some (.int (zo l3)), some (.int (nI l4)), some (.int (nI l5)), some (.int (nI l6))] [] (G, (mI A, j), cc) P) ∧ ((l3 = true) → (okW R) ∧ ((rW A w R) ∧ ((((alk R) = true) → EvP X (d + 5) gvm_101 149 [some (.ref w), some (.ref 47), some (.int (nI l2)), some (.int (zo l3)), some (.int (nI l4)), some (.int (nI l5)), some (.int (nI l6))] [] (G, (mI A, j), cc) P) ∧ (((alk R) = false) → EvP X (d + 5) gvm_101 133 [some (.ref w), some (.ref 47), some (.int (nI l2)), some (.int (zo l3)), some (.int (nI l4)), some (.int (nI l5)), some (.int (nI l6))] [] (G, (mI A, j), cc) P))))) : EvP X (d + 5) gvm_101 122 [some (.ref w), some (.ref 47), some (.int (nI l2)), some (.int (zo l3)), some (.int (nI l4)), some (.int (nI l5)), some (.int (nI l6))] [] (G, (mI A, j), cc) P :=
  (pv_iload_n rfl rfl   (pv_if_eq_zo rfl  (fun c1 => (H.1 c1)) (fun c1 => (pv_aload_n rfl rfl   (pv_virt rfl rfl rfl rfl rfl (oX10_k hw) rfl rfl rfl (c_viewsAlike (R := R) (w := w) (A := A) hw (H.2 c1).1 (H.2 c1).2.1 ) (pv_if_ne_zo rfl  (fun c2 => ((H.2 c1).2.2.1 c2)) (fun c2 => ((H.2 c1).2.2.2 c2))))))))
theorem w101_133 {X : gv_X} {d : Nat} {G : gv_Sh} {A : Nat → Nat → Nat} {j : Nat → Nat → Int64} {cc : gv_Rs} {P : gv_O × gv_S → Prop} {w : Nat} {l2 : Nat} {l3 : Bool} {l4 : Nat} {l5 : Nat} {l6 : Nat} {R : Nat → Nat} (hw : oX10 G w) (hp47 : oX4 G 47) (H : (okW R) ∧ ((rL A (w + 13) R) ∧ (((A w 8) = R 8) ∧ ((∀ A1v1 : Nat → Nat → Nat, ((rL A1v1 (w + 13) (toR R l5 3 l4)) ∧ (∀ q, q ≠ (w + 13) → q ≠ (w + 13) + 1 → A1v1 q = A q)) → EvP X (d + 5) gvm_101 149 [some (.ref w), some (.ref 47), some (.int (nI l2)), some (.int (zo l3)), some (.int (nI l4)), some (.int (nI l5)), some (.int (nI l6))] [] (G, (mI A1v1, j), cc) P))))) : EvP X (d + 5) gvm_101 133 [some (.ref w), some (.ref 47), some (.int (nI l2)), some (.int (zo l3)), some (.int (nI l4)), some (.int (nI l5)), some (.int (nI l6))] [] (G, (mI A, j), cc) P :=
  (pv_aload_n rfl rfl   (pv_getP rfl rfl (oX10_k hw) (oX10_14 hw)   (pv_aload_n rfl rfl   (pn_getI rfl rfl (oX10_k hw) rfl   (pv_iload rfl rfl   (pn_iconst rfl rfl   (pv_iload rfl rfl   (match (c_logAdd (tk := (A w 8)) (p := l5) (kd := 3) (pc := l4) (R := R) (l := (w + 13)) (A := A) (X := X) (d := d + 3) (G := G) (j := j) (cc := cc) (oX10_14c hw) H.1 H.2.1 H.2.2.1 ) with | ⟨A1v1, e1x146, h1⟩ => pv_virt rfl rfl rfl rfl rfl (oX5_k (oX10_14c hw)) rfl rfl rfl e1x146 (H.2.2.2 A1v1 h1)))))))))
theorem w101_149 {X : gv_X} {d : Nat} {G : gv_Sh} {A : Nat → Nat → Nat} {j : Nat → Nat → Int64} {cc : gv_Rs} {P : gv_O × gv_S → Prop} {w : Nat} {l2 : Nat} {l3 : Bool} {l4 : Nat} {l5 : Nat} {l6 : Nat} (hw : oX10 G w) (hp47 : oX4 G 47) (H : (((A w 8) + 1) < 2147483648) ∧ (EvP X (d + 5) gvm_101 165 [some (.ref w), some (.ref 47), some (.int (nI l2)), some (.int (zo l3)), some (.int (nI l4)), some (.int (nI l5)), some (.int (nI l6))] [] (G, (mI (gu A w 8 (min 9999 ((A w 8) + 1))), j), cc) P)) : EvP X (d + 5) gvm_101 149 [some (.ref w), some (.ref 47), some (.int (nI l2)), some (.int (zo l3)), some (.int (nI l4)), some (.int (nI l5)), some (.int (nI l6))] [] (G, (mI A, j), cc) P :=
  (pv_aload_n rfl rfl   (pn_sipush rfl rfl   (pv_aload_n rfl rfl   (pn_getI rfl rfl (oX10_k hw) rfl   (pn_iconst rfl rfl   (pn_iadd rfl   (pv_stat rfl rfl rfl rfl rfl rfl rfl rfl (k_min (a := 9999) (b := ((A w 8) + 1)) (A := A) (by decide) H.1 ) (pn_putI rfl rfl (oX10_k hw)   H.2))))))))
theorem w101_165 {X : gv_X} {d : Nat} {G : gv_Sh} {A : Nat → Nat → Nat} {j : Nat → Nat → Int64} {cc : gv_Rs} {P : gv_O × gv_S → Prop} {w : Nat} {l2 : Nat} {l3 : Bool} {l4 : Nat} {l5 : Nat} {l6 : Nat} (hw : oX10 G w) (hp47 : oX4 G 47) (H : (l6 < 4294967296) ∧ (((l6 ≤ 1) → EvP X (d + 5) gvm_101 176 [some (.ref w), some (.ref 47), some (.int (nI l2)), some (.int (zo l3)), some (.int (nI l4)), some (.int (nI l5)), some (.int (nI l6))] [] (G, (mI A, j), cc) P) ∧ ((¬ (l6 ≤ 1)) → P (.inl (some (.int (nI 0))), (G, (mI A, j), cc))))) : EvP X (d + 5) gvm_101 165 [some (.ref w), some (.ref 47), some (.int (nI l2)), some (.int (zo l3)), some (.int (nI l4)), some (.int (nI l5)), some (.int (nI l6))] [] (G, (mI A, j), cc) P :=
  (pv_aload_n rfl rfl   (pv_iload rfl rfl   (pv_virt rfl rfl rfl rfl rfl (oX10_k hw) rfl rfl rfl (c_isTrap (k := l6) (w := w) (A := A) hw H.1 ) (pv_if_ne_dc rfl  (fun c1 => (H.2.1 c1)) (fun c1 => (pn_iconst rfl rfl   (pv_ireti rfl rfl (H.2.2 c1))))))))
theorem w101_176 {X : gv_X} {d : Nat} {G : gv_Sh} {A : Nat → Nat → Nat} {j : Nat → Nat → Int64} {cc : gv_Rs} {P : gv_O × gv_S → Prop} {w : Nat} {l2 : Nat} {l3 : Bool} {l4 : Nat} {l5 : Nat} {l6 : Nat} {R : Nat → Nat} (hw : oX10 G w) (hp47 : oX4 G 47) (H : (okW R) ∧ ((rO A (w + 1) R) ∧ ((rP A w R) ∧ ((okLw R) ∧ ((rRu A 48 R) ∧ ((stT A R) ∧ ((smI A R) ∧ ((l5 < R 0) ∧ ((w + 15 ≤ 47) ∧ ((∀ A1v1 : Nat → Nat → Nat, ((smI A1v1 R) ∧ (∀ a, (a < 61 ∨ 63 < a) → A1v1 a = A a)) → ((((A w 9) + 1) + (lsum R (tbF R l5) l5 2)) < 2147483648) ∧ (P (.inl (some (.int (nI 1))), (G, (mI (gu A1v1 w 9 (min 9999 (((A w 9) + 1) + (lsum R (tbF R l5) l5 2)))), j), cc)))))))))))))) : EvP X (d + 5) gvm_101 176 [some (.ref w), some (.ref 47), some (.int (nI l2)), some (.int (zo l3)), some (.int (nI l4)), some (.int (nI l5)), some (.int (nI l6))] [] (G, (mI A, j), cc) P :=
  (pv_aload_n rfl rfl   (pn_sipush rfl rfl   (pv_aload_n rfl rfl   (pn_getI rfl rfl (oX10_k hw) rfl   (pn_iconst rfl rfl   (pn_iadd rfl   (pv_aload_n rfl rfl   (pv_aload_n rfl rfl   (pv_iload rfl rfl   (pn_iconst rfl rfl   (match (c_lsum (p := l5) (so := 2) (R := R) (w := w) (A := A) (X := X) (d := d + 1) (G := G) (j := j) (cc := cc) hp47 hw H.1 H.2.1 H.2.2.1 H.2.2.2.1 H.2.2.2.2.1 H.2.2.2.2.2.1 H.2.2.2.2.2.2.1 H.2.2.2.2.2.2.2.1 (by decide) H.2.2.2.2.2.2.2.2.1 ) with | ⟨A1v1, e2x191, h1⟩ => pv_virt rfl rfl rfl rfl rfl (oX4_k hp47) rfl rfl rfl e2x191 (pn_iadd rfl   (pv_stat rfl rfl rfl rfl rfl rfl rfl rfl (k_min (a := 9999) (b := (((A w 9) + 1) + (lsum R (tbF R l5) l5 2))) (A := A1v1) (by decide) (H.2.2.2.2.2.2.2.2.2 A1v1 h1).1 ) (pn_putI rfl rfl (oX10_k hw)   (pn_iconst rfl rfl   (pv_ireti rfl rfl (H.2.2.2.2.2.2.2.2.2 A1v1 h1).2))))))))))))))))
theorem c_tickOnce_p {X : gv_X} {d : Nat} {G : gv_Sh} {A : Nat → Nat → Nat} {j : Nat → Nat → Int64} {cc : gv_Rs} {P : gv_O × gv_S → Prop} {w : Nat} {R : Nat → Nat} (hw : oX10 G w) (hp47 : oX4 G 47) (p0 : okW R) (p1 : rW A w R) (p2 : lg A R) (p3 : w + 15 ≤ 47) (hP : ∀ A1 : Nat → Nat → Nat, (rW A1 w (tkR (drR R false) (tbF R) (drA R false))) ∧ (lg A1 R) ∧ (frW A A1 w) → P (.inl (some (.int (nI ((tkB (drR R false) (drA R false)).toNat)))), (G, (mI A1, j), cc))) : EvP X (d + 5) gvm_101 0 (gv_enter [.ref w, .ref 47] 7) [] (G, (mI A, j), cc) P := by
  have n := okW_n p0
  have r4 := p1.2.2.2.1
  have ok1 : okW (sdR R) := okW_sd p0
  have n1 := okW_n ok1
  have g1 := okW_g ok1 (g := 1) (by omega)
  have x1 : eqX R (sdR R) := eqX_sd R
  have e10 : A w 10 = R 11 := r4.2.2.2.2.2.2.1
  have e7 : A w 7 = R 7 := r4.2.2.2.1
  refine w101 hw hp47 (fun B qB => ?_)
  have rB : rW B w (sdR R) := by
    refine rW_n p1 p0 (fun i hi => ?_) ?_ (fun q a => by rw [qB, gu_row a]) (by rw [qB, gu_k (by decide) rfl])
    · unfold sdR; rw [if_neg (by omega)]
    · rw [qB]
      refine ⟨?_, ?_, ?_, ?_, ?_, ?_, ?_, ?_⟩
      all_goals first
        | (rw [gu_hit, e10]; unfold sdR; rw [if_pos rfl])
        | (rw [gu_k (by decide) rfl]; unfold sdR; rw [if_neg (by decide)]; first | exact r4.1 | exact r4.2.1 | exact r4.2.2.1 | exact r4.2.2.2.1 | exact r4.2.2.2.2.1 | exact r4.2.2.2.2.2.1 | exact r4.2.2.2.2.2.2.2)
  have fB : frW A B w := fun q a b => by rw [qB, gu_row (by omega)]
  have lB : lg B R := lg_of p2 (fun q hq => by rw [qB, gu_row (by omega)])
  have b7 : B w 7 = R 7 := by rw [qB, gu_k (by decide) rfl]; exact e7
  have go : ∀ al x, al = drA R false → x = al.toNat → EvP X (d + 5) gvm_101 20 [some (.ref w), some (.ref 47), some (.int (nI x)), none, none, none, none] [] (G, (mI B, j), cc) P := by
    intro al x hal hx
    rw [← hal] at hP
    have hP : ∀ A1, rW A1 w (tkR (sdR R) (tbF R) al) ∧ lg A1 R ∧ frW A A1 w → P (.inl (some (.int (nI (tkB (sdR R) al).toNat))), (G, (mI A1, j), cc)) := hP
    have k1 := ok_tk1 ok1 (tbF R) al
    have k2 := ok_tk2 ok1 (tbF R) al
    have x01 := eqX_tr x1 k1.2
    have x02 := eqX_tr x1 k2.2
    have s149 : ∀ C cm, rW C w (tk2 (sdR R) (tbF R) al) → lg C R → frW A C w → (cm ≤ 1 ↔ tkB (sdR R) al = true) → cm < 4294967296 → EvP X (d + 5) gvm_101 149 [some (.ref w), some (.ref 47), some (.int (nI x)), some (.int (zo (alk (sdR R)))), some (.int (nI (sdR R (102 + 13 * 1 + 0)))), some (.int (nI (tkP (sdR R) al))), some (.int (nI cm))] [] (G, (mI C, j), cc) P := by
      intro C cm hC hl hf hcm hlt
      have c4 := hC.2.2.2.1
      have c8 : C w 8 = (tk2 (sdR R) (tbF R) al) 8 := c4.2.2.2.2.1
      have nn := okW_n k2.1
      obtain ⟨S, hS⟩ : ∃ S, S = seR (tk2 (sdR R) (tbF R) al) 8 (min 9999 ((tk2 (sdR R) (tbF R) al) 8 + 1)) := ⟨_, rfl⟩
      have okS : okW S := by rw [hS]; exact okW_se k2.1 (Or.inl rfl) (by omega)
      have xS : eqX (tk2 (sdR R) (tbF R) al) S := by rw [hS]; exact eqX_se _ _ (Or.inl rfl)
      obtain ⟨D, hD⟩ : ∃ D, D = gu C w 8 (min 9999 (C w 8 + 1)) := ⟨_, rfl⟩
      have rD : rW D w S := by
        refine rW_n hC k2.1 (fun i hi => by rw [hS]; unfold seR; rw [if_neg (by omega)]) ?_ (fun q a => by rw [hD, gu_row a]) (by rw [hD, gu_k (by decide) rfl])
        rw [hD, hS]
        refine ⟨?_, ?_, ?_, ?_, ?_, ?_, ?_, ?_⟩
        all_goals first
          | (rw [gu_hit, c8]; unfold seR; rw [if_pos rfl])
          | (rw [gu_k (by decide) rfl]; unfold seR; rw [if_neg (by decide)]; first | exact c4.1 | exact c4.2.1 | exact c4.2.2.1 | exact c4.2.2.2.1 | exact c4.2.2.2.2.1 | exact c4.2.2.2.2.2.1 | exact c4.2.2.2.2.2.2.1 | exact c4.2.2.2.2.2.2.2)
      have lD : lg D R := lg_of hl (fun q hq => by rw [hD, gu_row (by omega)])
      have fD : frW A D w := fun q a b => by rw [hD, gu_row (by omega)]; exact hf q a b
      refine w101_149 hw hp47 ⟨by omega, ?_⟩
      rw [← hD]
      refine w101_165 hw hp47 ⟨hlt, fun c1 => ?_, fun c1 => qn (hP D ⟨?_, lD, fD⟩) ?_⟩
      · have tb := hcm.mp c1
        obtain ⟨t1, t2', t3⟩ := tkP_f ok1 tb
        have hop : (tkP (sdR R) al) < R 0 := by rw [t3, ← x1 0 (by omega)]; exact hoP_lt ok1 t2'
        have hop8 : (tkP (sdR R) al) < 8 := by omega
        have xRS : eqX R S := eqX_tr x02 xS
        have lS : lg D S := lg_X p0 lD xRS
        have ll := lsum_le (t := tbF S (tkP (sdR R) al)) (p := (tkP (sdR R) al)) (w := 2) lS.1
        have d9 : D w 9 = (tk2 (sdR R) (tbF R) al) 9 := by rw [hD, gu_k (by decide) rfl]; exact c4.2.2.2.2.2.1
        have es : lsum S (tbF S (tkP (sdR R) al)) (tkP (sdR R) al) 2 = lsum (tk2 (sdR R) (tbF R) al) (tbF R (tkP (sdR R) al)) (tkP (sdR R) al) 2 := by
          rw [lsum_X xS hop8 nn.2.2.2.1, tbF_XX p0 xRS hop]
        have etk : tkR (sdR R) (tbF R) al = seR S 9 (min 9999 (D w 9 + 1 + lsum S (tbF S (tkP (sdR R) al)) (tkP (sdR R) al) 2)) := by
          unfold tkR tk3
          rw [if_pos tb, es, d9, hS, se_comm]
          have : seR (tk2 (sdR R) (tbF R) al) 9 (min 9999 ((tk2 (sdR R) (tbF R) al) 9 + (1 + lsum (tk2 (sdR R) (tbF R) al) (tbF R (tkP (sdR R) al)) (tkP (sdR R) al) 2))) 8 = (tk2 (sdR R) (tbF R) al) 8 := by unfold seR; rw [if_neg (by decide)]
          rw [this, show (tk2 (sdR R) (tbF R) al) 9 + 1 + lsum (tk2 (sdR R) (tbF R) al) (tbF R (tkP (sdR R) al)) (tkP (sdR R) al) 2 = (tk2 (sdR R) (tbF R) al) 9 + (1 + lsum (tk2 (sdR R) (tbF R) al) (tbF R (tkP (sdR R) al)) (tkP (sdR R) al) 2) by omega]
        refine w101_176 (R := S) hw hp47 ⟨okS, rD.1, rD.2.1, lS.1, lS.2.1, lS.2.2.1, lS.2.2.2, by rw [xRS 0 (by omega)]; exact hop, p3, fun E h1 => ⟨by omega, qn (hP _ ⟨?_, ?_, ?_⟩) (by rw [tb]; rfl)⟩⟩
        · rw [etk]
          have rE : rW E w S := rW_fr rD (fun q a b => h1.2 q (by omega))
          have d4 := rE.2.2.2.1
          refine rW_n rE okS (fun i hi => by unfold seR; rw [if_neg (by omega)]) ?_ (fun q a => gu_row a) (gu_k (by decide) rfl)
          refine ⟨?_, ?_, ?_, ?_, ?_, ?_, ?_, ?_⟩
          all_goals first
            | (rw [gu_hit]; unfold seR; rw [if_pos rfl])
            | (rw [gu_k (by decide) rfl]; unfold seR; rw [if_neg (by decide)]; first | exact d4.1 | exact d4.2.1 | exact d4.2.2.1 | exact d4.2.2.2.1 | exact d4.2.2.2.2.1 | exact d4.2.2.2.2.2.1 | exact d4.2.2.2.2.2.2.1 | exact d4.2.2.2.2.2.2.2)
        · have lE : lg E S := ⟨lS.1, rRu_of lS.2.1 (fun a x y => h1.2 a (by omega)), stT_of lS.2.2.1 (h1.2 56 (by omega)), h1.1⟩
          exact lg_of (lg_X okS lE (fun i hi => (xRS i hi).symm)) (fun q hq => gu_row (by omega))
        · exact fun q a b => by rw [gu_row (by omega), h1.2 q b]; exact fD q a b
      · have tf : tkB (sdR R) al ≠ true := fun y => c1 (hcm.mpr y)
        have etk : tkR (sdR R) (tbF R) al = S := by unfold tkR tk3; rw [if_neg tf, hS]
        rw [etk]; exact rD
      · rw [Bool.eq_false_iff.mpr (fun y => c1 (hcm.mpr y))]; rfl
    have s122 : ∀ C cm, rW C w (tk1 (sdR R) (tbF R) al) → lg C R → frW A C w → (cm ≤ 1 ↔ tkB (sdR R) al = true) → cm < 4294967296 → EvP X (d + 5) gvm_101 122 [some (.ref w), some (.ref 47), some (.int (nI x)), some (.int (zo (alk (sdR R)))), some (.int (nI (sdR R (102 + 13 * 1 + 0)))), some (.int (nI (tkP (sdR R) al))), some (.int (nI cm))] [] (G, (mI C, j), cc) P := by
      intro C cm hC hl hf hcm hlt
      refine w101_122 (R := (tk1 (sdR R) (tbF R) al)) hw hp47 ⟨fun c1 => s149 C cm ?_ hl hf hcm hlt, fun c1 => ⟨k1.1, hC, fun c2 => s149 C cm ?_ hl hf hcm hlt, fun c2 => ?_⟩⟩
      · have : (tk2 (sdR R) (tbF R) al) = (tk1 (sdR R) (tbF R) al) := by unfold tk2; rw [if_neg (fun y => by rw [c1] at y; exact absurd y.1 (by decide))]
        rw [this]; exact hC
      · have : (tk2 (sdR R) (tbF R) al) = (tk1 (sdR R) (tbF R) al) := by unfold tk2; rw [if_neg (fun y => by rw [c2] at y; exact absurd y.2 (by decide))]
        rw [this]; exact hC
      · have : (tk2 (sdR R) (tbF R) al) = toR (tk1 (sdR R) (tbF R) al) (tkP (sdR R) al) 3 (sdR R (102 + 13 * 1 + 0)) := by unfold tk2; rw [if_pos ⟨c1, c2⟩]
        refine w101_133 (R := (tk1 (sdR R) (tbF R) al)) hw hp47 ⟨k1.1, hC.2.2.2.2.2.2, hC.2.2.2.1.2.2.2.2.1, fun D h1 => s149 D cm ?_ (lg_of hl (fun q hq => h1.2 q (by omega) (by omega))) (fun q a b => by rw [h1.2 q (by omega) (by omega)]; exact hf q a b) hcm hlt⟩
        rw [this]
        exact rW_l hC k1.1 (fun i hi => toR_o hi) h1.1 h1.2
    have s93 : ∀ C S cm, rW C w S → okW S → lg C R → frW A C w → ((tk1 (sdR R) (tbF R) al) = if cm = 4294967295 ∨ cm = 5 then S else toR S (tkP (sdR R) al) cm (sdR R (102 + 13 * 1 + 0))) → (cm ≤ 1 ↔ tkB (sdR R) al = true) → cm < 4294967296 → EvP X (d + 5) gvm_101 93 [some (.ref w), some (.ref 47), some (.int (nI x)), some (.int (zo (alk (sdR R)))), some (.int (nI (sdR R (102 + 13 * 1 + 0)))), some (.int (nI (tkP (sdR R) al))), some (.int (nI cm))] [] (G, (mI C, j), cc) P := by
      intro C S cm hC okS hl hf ht hcm hlt
      refine w101_93 hw hp47 ⟨hlt, fun c1 => s122 C cm ?_ hl hf hcm hlt, fun c1 => ⟨by omega, fun c2 => s122 C cm ?_ hl hf hcm hlt, fun c2 => ?_⟩⟩
      · rw [ht, if_pos (Or.inl c1)]; exact hC
      · rw [ht, if_pos (Or.inr c2)]; exact hC
      · refine w101_105 (R := S) hw hp47 ⟨okS, hC.2.2.2.2.2.2, hC.2.2.2.1.2.2.2.2.1, fun D h1 => s122 D cm ?_ (lg_of hl (fun q hq => h1.2 q (by omega) (by omega))) (fun q a b => by rw [h1.2 q (by omega) (by omega)]; exact hf q a b) hcm hlt⟩
        rw [ht, if_neg (by omega)]
        exact rW_l hC okS (fun i hi => toR_o hi) h1.1 h1.2
    have epc : B (w + 11) 0 = (sdR R (102 + 13 * 1 + 0)) := rB.2.2.2.2.2.1.1
    refine w101_20 (R := sdR R) hw hp47 ⟨ok1, rB, w101_25 hw hp47 ?_⟩
    rw [epc]
    have s82 : al = false → EvP X (d + 5) gvm_101 82 [some (.ref w), some (.ref 47), some (.int (nI x)), some (.int (zo (alk (sdR R)))), some (.int (nI (sdR R (102 + 13 * 1 + 0)))), some (.int (nI (tkP (sdR R) al))), none] [] (G, (mI B, j), cc) P := by
      intro ha
      have oB := okW_ba ok1
      have xb : eqX (sdR R) (baR (sdR R)) := eqG_X (eqG_ba _)
      refine w101_82 (R := sdR R) hw hp47 ⟨ok1, rB, fun C h1 => w101_86 (R := baR (sdR R)) hw hp47 ⟨oB, h1.1, lg_X ok1 (lg_X p0 (lg_of lB (fun q hq => h1.2 q (by omega) (by omega))) x1) xb, p3, fun D h2 => w101_91 hw hp47 (s93 D (hoR (baR (sdR R)) (tbF (baR (sdR R)))) (caN (baR (sdR R))) h2.1 (okW_ho oB _) ?_ ?_ ?_ ?_ (caN_lt _))⟩⟩
      · exact lg_X oB h2.2.1 (fun i hi => ((eqX_tr x1 xb) i hi).symm)
      · exact fun q a b => by rw [h2.2.2 q (by omega) (by omega) b, h1.2 q (by omega) (by omega)]; exact fB q a b
      · have eT : hoR (baR (sdR R)) (tbF (baR (sdR R))) = hoR (baR (sdR R)) (tbF R) := hoR_T oB (fun p hp => by
          rw [xb 0 (by omega), x1 0 (by omega)] at hp
          exact tbF_XX p0 (eqX_tr x1 xb) hp)
        have ch := caN_ho (baR (sdR R))
        unfold tk1
        rw [if_neg (by rw [ha]; decide), eT]
        by_cases z : hoW (baR (sdR R)) = 4294967295
        · rw [if_pos z, if_pos (ch.2.1.mp z)]
        · rw [if_neg z, if_neg (fun y => z (ch.2.1.mpr y)), ← ch.2.2 z]
      · rw [(caN_ho (baR (sdR R))).1]
        unfold tkB
        rw [ha]
        show _ ↔ (true && decide _) = true
        rw [Bool.true_and, decide_eq_true_eq]
    have s50 : EvP X (d + 5) gvm_101 50 [some (.ref w), some (.ref 47), some (.int (nI x)), some (.int (zo (alk (sdR R)))), some (.int (nI (sdR R (102 + 13 * 1 + 0)))), some (.int (nI (tkP (sdR R) al))), none] [] (G, (mI B, j), cc) P := by
      refine w101_50 hw hp47 ⟨by rw [hx]; cases al <;> decide, fun c1 => s82 (by cases al; rfl; rw [hx] at c1; exact absurd c1 (by decide)), fun c1 => ?_⟩
      have ha : al = true := by cases al; exact absurd hx c1; rfl
      refine w101_54 hw hp47 (fun C q1 D q2 => s93 D (ctR (ctR (sdR R) 0) 1) 4 ?_ (okW_ct (okW_ct ok1 (by omega)) (by omega)) ?_ ?_ ?_ ?_ (by omega))
      · have rC1 : rW C w (ctR (sdR R) 0) := by
          refine rW_b rB ok1 (fun i hi => by unfold ctR; rw [if_neg (by omega), if_neg (by omega)]) (by rw [q1]; exact rC_ct rB.2.2.2.2.1 rB.2.2.2.1.1) (fun q a b => by rw [q1, gu_row a, gu_row a])
        refine rW_h rC1 (okW_ct ok1 (by omega)) (fun i hi => by
          show ctR (ctR (sdR R) 0) 1 i = ctR (sdR R) 0 i
          generalize ctR (sdR R) 0 = Z
          unfold ctR; rw [if_neg (by omega), if_neg (by omega)]) (by rw [q2]; exact rC_ct rC1.2.2.2.2.2.1 rC1.2.2.2.1.1) (fun q a b => by rw [q2, gu_row a, gu_row a])
      · exact lg_of lB (fun q hq => by rw [q2, gu_row (by omega), gu_row (by omega), q1, gu_row (by omega), gu_row (by omega)])
      · exact fun q a b => by rw [q2, gu_row (by omega), gu_row (by omega), q1, gu_row (by omega), gu_row (by omega)]; exact fB q a b
      · rw [if_neg (by decide), toR_ct]
        unfold tk1 tkP
        rw [if_pos ha, if_pos (Or.inr ha)]
      · unfold tkB
        rw [ha]
        exact ⟨fun y => absurd y (by decide), fun y => by simp at y⟩
    refine w101_34 hw hp47 ⟨by rw [hx]; cases al <;> decide, fun c1 => ⟨by omega, by rw [rB.2.1.1]; exact n1.2.2.2.1, ?_⟩, fun c1 => ?_⟩
    · have ha : al = false := by cases al; rfl; rw [hx] at c1; exact absurd c1 (by decide)
      have e5 : (if (sdR R (102 + 13 * 1 + 0)) < B w 2 then B (w + 7) (sdR R (102 + 13 * 1 + 0)) else 4294967295) = (tkP (sdR R) al) := by
        rw [rW_op rB]
        unfold tkP
        by_cases z : (sdR R (102 + 13 * 1 + 0)) < sdR R 3
        · rw [if_pos z, if_neg (fun y => y.elim (fun y => by omega) (fun y => by rw [ha] at y; exact absurd y (by decide)))]; rfl
        · rw [if_neg z, if_pos (Or.inl (by omega))]
      rw [e5]; exact s50
    · have ha : al = true := by cases al; exact absurd hx c1; rfl
      have e5 : (tkP (sdR R) al) = 4294967295 := by unfold tkP; rw [if_pos (Or.inr ha)]
      rw [← e5]; exact s50
  have hd : drA R false = decide (sdN (A w 10) / 65536 % 32768 % 100 < B w 7) := by
    rw [e10, b7]; rfl
  refine ⟨by omega, by omega, by omega, fun c2 => go false 0 ?_ rfl, fun c2 => go true 1 ?_ rfl⟩
  · rw [hd, decide_eq_false (by omega)]
  · rw [hd, decide_eq_true (by omega)]
theorem c_tickOnce {X : gv_X} {d : Nat} {G : gv_Sh} {A : Nat → Nat → Nat} {j : Nat → Nat → Int64} {cc : gv_Rs} {w : Nat} {R : Nat → Nat} (hw : oX10 G w) (hp47 : oX4 G 47) (p0 : okW R) (p1 : rW A w R) (p2 : lg A R) (p3 : w + 15 ≤ 47) : ∃ A1 : Nat → Nat → Nat, Ev X (d + 5) gvm_101 0 (gv_enter [.ref w, .ref 47] 7) [] (G, (mI A, j), cc) (.inl (some (.int (nI ((tkB (drR R false) (drA R false)).toNat)))), (G, (mI A1, j), cc)) ∧ (rW A1 w (tkR (drR R false) (tbF R) (drA R false))) ∧ (lg A1 R) ∧ (frW A A1 w) := by
  obtain ⟨_, h, A1, rfl, hp⟩ := c_tickOnce_p (X := X) (d := d) (G := G) (A := A) (j := j) (cc := cc) (w := w) (R := R) (P := fun r => ∃ A1 : Nat → Nat → Nat, r = (.inl (some (.int (nI ((tkB (drR R false) (drA R false)).toNat)))), (G, (mI A1, j), cc)) ∧ (rW A1 w (tkR (drR R false) (tbF R) (drA R false))) ∧ (lg A1 R) ∧ (frW A A1 w)) hw hp47 p0 p1 p2 p3 (fun A1 h => ⟨A1, rfl, h⟩)
  exact ⟨A1, h, hp⟩
