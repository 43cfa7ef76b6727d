/-! the class: World, many ticks, leaks -/
theorem w102 {X : gv_X} {d : Nat} {G : gv_Sh} {A : Nat → Nat → Nat} {j : Nat → Nat → Int64} {cc : gv_Rs} {P : gv_O × gv_S → Prop} {w : Nat} {n : Nat} (hw : oX10 G w) (hp47 : oX4 G 47) (H : EvP X (d + 6) gvm_102 5 [some (.ref w), some (.int (nI n)), some (.ref 47), some (.int (nI 0)), some (.int (nI 0))] [] (G, (mI A, j), cc) P) : EvP X (d + 6) gvm_102 0 (gv_enter [.ref w, .int (nI n), .ref 47] 5) [] (G, (mI A, j), cc) P :=
  (pn_iconst rfl rfl   (pv_istore_n rfl rfl   (pn_iconst rfl rfl   (pv_istore rfl rfl   H))))
theorem w102_5 {X : gv_X} {d : Nat} {G : gv_Sh} {A : Nat → Nat → Nat} {j : Nat → Nat → Int64} {cc : gv_Rs} {P : gv_O × gv_S → Prop} {w : Nat} {n : Nat} {l3 : Nat} {l4 : Nat} {R : Nat → Nat} (hw : oX10 G w) (hp47 : oX4 G 47) (H : (l4 < 2147483648) ∧ ((n < 2147483648) ∧ (((n ≤ l4) → P (.inl (some (.int (nI l3))), (G, (mI A, j), cc))) ∧ ((l4 < n) → (l4 < 2147483648) ∧ (((60 ≤ l4) → P (.inl (some (.int (nI l3))), (G, (mI A, j), cc))) ∧ ((l4 < 60) → (okW R) ∧ ((rW A w R) ∧ ((lg A R) ∧ ((w + 15 ≤ 47) ∧ ((∀ A1v1 : Nat → Nat → Nat, ((rW A1v1 w (tkR (drR R false) (tbF R) (drA R false))) ∧ (lg A1v1 R) ∧ (frW A A1v1 w)) → EvP X (d + 6) gvm_102 5 [some (.ref w), some (.int (nI n)), some (.ref 47), some (.int (nI (l3 + ((tkB (drR R false) (drA R false)).toNat)))), some (.int (nI (l4 + 1)))] [] (G, (mI A1v1, j), cc) P))))))))))) : EvP X (d + 6) gvm_102 5 [some (.ref w), some (.int (nI n)), some (.ref 47), some (.int (nI l3)), some (.int (nI l4))] [] (G, (mI A, j), cc) P :=
  (pv_iload rfl rfl   (pv_iload_n rfl rfl   (pn_ic_ge rfl H.1 H.2.1 (fun c1 => (pv_iload_n rfl rfl   (pv_ireti rfl rfl (H.2.2.1 c1)))) (fun c1 => (pv_iload rfl rfl   (pn_bipush rfl rfl   (pn_ic_ge rfl (H.2.2.2 c1).1 (by decide) (fun c2 => (pv_iload_n rfl rfl   (pv_ireti rfl rfl ((H.2.2.2 c1).2.1 c2)))) (fun c2 => (pv_iload_n rfl rfl   (pv_aload_n rfl rfl   (pv_aload_n rfl rfl   (match (c_tickOnce (R := R) (w := w) (A := A) (X := X) (d := d + 0) (G := G) (j := j) (cc := cc) hw hp47 ((H.2.2.2 c1).2.2 c2).1 ((H.2.2.2 c1).2.2 c2).2.1 ((H.2.2.2 c1).2.2 c2).2.2.1 ((H.2.2.2 c1).2.2 c2).2.2.2.1 ) with | ⟨A1v1, e1x21, h3⟩ => pv_virt rfl rfl rfl rfl rfl (oX10_k hw) rfl rfl rfl e1x21 (pn_iadd rfl   (pv_istore_n rfl rfl   (pn_iinc rfl rfl rfl rfl   (pv_goto rfl (((H.2.2.2 c1).2.2 c2).2.2.2.2 A1v1 h3)))))))))))))))))
theorem c_tickMany_p {X : gv_X} {d : Nat} {G : gv_Sh} {A : Nat → Nat → Nat} {j : Nat → Nat → Int64} {cc : gv_Rs} {P : gv_O × gv_S → Prop} {w : Nat} {n : Nat} {R : Nat → Nat} (hw : oX10 G w) (hp47 : oX4 G 47) (p0 : okW R) (p1 : rW A w R) (p2 : lg A R) (p3 : w + 15 ≤ 47) (p4 : n ≤ 60) (hP : ∀ A1 : Nat → Nat → Nat, (rW A1 w (gsR (tbF R) false n R)) ∧ (lg A1 R) ∧ (frW A A1 w) → P (.inl (some (.int (nI (gsN (tbF R) false n R)))), (G, (mI A1, j), cc))) : EvP X (d + 6) gvm_102 0 (gv_enter [.ref w, .int (nI n), .ref 47] 5) [] (G, (mI A, j), cc) P := by
  have Lp : ∀ i k B S m, k + i = n → okW S → eqX R S → rW B w S → lg B R → frW A B w → gsR (tbF R) false i S = gsR (tbF R) false n R → m + gsN (tbF R) false i S = gsN (tbF R) false n R → m ≤ k → EvP X (d + 6) gvm_102 5 [some (.ref w), some (.int (nI n)), some (.ref 47), some (.int (nI m)), some (.int (nI k))] [] (G, (mI B, j), cc) P := by
    intro i
    induction i with
    | zero =>
      intro k B S m hk oS xS rB lB fB hg hm hb
      have hm : m = gsN (tbF R) false n R := hm
      have hg : S = gsR (tbF R) false n R := hg
      exact w102_5 (R := R) hw hp47 ⟨by omega, by omega, fun c1 => qn (hP B ⟨by rw [← hg]; exact rB, lB, fB⟩) hm.symm, fun c1 => absurd c1 (by omega)⟩
    | succ i ih =>
      intro k B S m hk oS xS rB lB fB hg hm hb
      obtain ⟨a, b⟩ := ok_dr oS false
      have e : tkR (drR S false) (tbF S) (drA S false) = tkR (drR S false) (tbF R) (drA S false) := tkR_T a (fun p hp => by
        rw [b 0 (by omega), xS 0 (by omega)] at hp
        exact tbF_XX p0 xS hp) _
      obtain ⟨c, f⟩ := ok_tk a (tbF R) (drA S false)
      have x2 := eqX_tr xS (eqX_tr b f)
      have b1 : (tkB (drR S false) (drA S false)).toNat ≤ 1 := Bool.toNat_le _
      refine w102_5 (R := S) hw hp47 ⟨by omega, by omega, fun c1 => absurd c1 (by omega), fun c1 => ⟨by omega, fun c2 => absurd c2 (by omega), fun c2 => ⟨oS, rB, lg_X p0 lB xS, p3, fun C h1 => ih (k + 1) C (tkR (drR S false) (tbF R) (drA S false)) _ (by omega) c x2 (by rw [← e]; exact h1.1) (lg_X oS h1.2.1 (fun i hi => (xS i hi).symm)) (frW_tr fB h1.2.2) hg ?_ (by omega)⟩⟩⟩
      rw [← hm, Nat.add_assoc]; rfl
  exact w102 hw hp47 (Lp n 0 A R 0 (Nat.zero_add _) p0 (eqX_rf R) p1 p2 (fun _ _ _ => rfl) rfl (Nat.zero_add _) (Nat.le_refl _))
theorem c_tickMany {X : gv_X} {d : Nat} {G : gv_Sh} {A : Nat → Nat → Nat} {j : Nat → Nat → Int64} {cc : gv_Rs} {w : Nat} {n : Nat} {R : Nat → Nat} (hw : oX10 G w) (hp47 : oX4 G 47) (p0 : okW R) (p1 : rW A w R) (p2 : lg A R) (p3 : w + 15 ≤ 47) (p4 : n ≤ 60) : ∃ A1 : Nat → Nat → Nat, Ev X (d + 6) gvm_102 0 (gv_enter [.ref w, .int (nI n), .ref 47] 5) [] (G, (mI A, j), cc) (.inl (some (.int (nI (gsN (tbF R) false n R)))), (G, (mI A1, j), cc)) ∧ (rW A1 w (gsR (tbF R) false n R)) ∧ (lg A1 R) ∧ (frW A A1 w) := by
  obtain ⟨_, h, A1, rfl, hp⟩ := c_tickMany_p (X := X) (d := d) (G := G) (A := A) (j := j) (cc := cc) (w := w) (n := n) (R := R) (P := fun r => ∃ A1 : Nat → Nat → Nat, r = (.inl (some (.int (nI (gsN (tbF R) false n R)))), (G, (mI A1, j), cc)) ∧ (rW A1 w (gsR (tbF R) false n R)) ∧ (lg A1 R) ∧ (frW A A1 w)) hw hp47 p0 p1 p2 p3 p4 (fun A1 h => ⟨A1, rfl, h⟩)
  exact ⟨A1, h, hp⟩
theorem w103 {X : gv_X} {d : Nat} {G : gv_Sh} {A : Nat → Nat → Nat} {j : Nat → Nat → Int64} {cc : gv_Rs} {P : gv_O × gv_S → Prop} {w : Nat} {R : Nat → Nat} (hw : oX10 G w) (hp47 : oX4 G 47) (H : (okW R) ∧ ((rW A w R) ∧ ((∀ A1v1 : Nat → Nat → Nat, ((rW A1v1 w (boR R)) ∧ (∀ q, q ≠ w + 9 → q ≠ w + 10 → q ≠ w + 11 → q ≠ w + 12 → A1v1 q = A q)) → EvP X (d + 5) gvm_103 4 [some (.ref w), some (.ref 47), none] [] (G, (mI A1v1, j), cc) P)))) : EvP X (d + 5) gvm_103 0 (gv_enter [.ref w, .ref 47] 3) [] (G, (mI A, j), cc) P :=
  (pv_aload_n rfl rfl   (match (c_startWorld (R := R) (w := w) (A := A) (X := X) (d := d + 3) (G := G) (j := j) (cc := cc) hw H.1 H.2.1 ) with | ⟨A1v1, e1x1, h1⟩ => pv_virt rfl rfl rfl rfl rfl (oX10_k hw) rfl rfl rfl e1x1 (H.2.2 A1v1 h1)))
theorem w103_4 {X : gv_X} {d : Nat} {G : gv_Sh} {A : Nat → Nat → Nat} {j : Nat → Nat → Int64} {cc : gv_Rs} {P : gv_O × gv_S → Prop} {w : Nat} (hw : oX10 G w) (hp47 : oX4 G 47) (H : EvP X (d + 5) gvm_103 6 [some (.ref w), some (.ref 47), some (.int (nI 1))] [] (G, (mI A, j), cc) P) : EvP X (d + 5) gvm_103 4 [some (.ref w), some (.ref 47), none] [] (G, (mI A, j), cc) P :=
  (pn_iconst rfl rfl   (pv_istore_n rfl rfl   H))
theorem w103_6 {X : gv_X} {d : Nat} {G : gv_Sh} {A : Nat → Nat → Nat} {j : Nat → Nat → Int64} {cc : gv_Rs} {P : gv_O × gv_S → Prop} {w : Nat} {l2 : Nat} {R : Nat → Nat} (hw : oX10 G w) (hp47 : oX4 G 47) (H : (l2 < 2147483648) ∧ (((60 < l2) → P (.inl (some (.int (nI 4294967295))), (G, (mI A, j), cc))) ∧ ((l2 ≤ 60) → (okW R) ∧ ((rW A w R) ∧ (((R 3 ≤ R (102 + 13 * 0 + 0) ∧ R 3 ≤ R (102 + 13 * 1 + 0)) → P (.inl (some (.int (nI 4294967295))), (G, (mI A, j), cc))) ∧ ((¬ (R 3 ≤ R (102 + 13 * 0 + 0) ∧ R 3 ≤ R (102 + 13 * 1 + 0))) → EvP X (d + 5) gvm_103 19 [some (.ref w), some (.ref 47), some (.int (nI l2))] [] (G, (mI A, j), cc) P)))))) : EvP X (d + 5) gvm_103 6 [some (.ref w), some (.ref 47), some (.int (nI l2))] [] (G, (mI A, j), cc) P :=
  (pv_iload_n rfl rfl   (pn_bipush rfl rfl   (pn_ic_gt rfl H.1 (by decide) (fun c1 => (pn_iconst (u := 4294967295) rfl (by decide)   (pv_ireti rfl rfl (H.2.1 c1)))) (fun c1 => (pv_aload_n rfl rfl   (pv_virt rfl rfl rfl rfl rfl (oX10_k hw) rfl rfl rfl (c_bothHalted (R := R) (w := w) (A := A) hw (H.2.2 c1).1 (H.2.2 c1).2.1 ) (pv_if_ne_dc rfl  (fun c2 => (pn_iconst (u := 4294967295) rfl (by decide)   (pv_ireti rfl rfl ((H.2.2 c1).2.2.1 c2)))) (fun c2 => ((H.2.2 c1).2.2.2 c2)))))))))
theorem w103_19 {X : gv_X} {d : Nat} {G : gv_Sh} {A : Nat → Nat → Nat} {j : Nat → Nat → Int64} {cc : gv_Rs} {P : gv_O × gv_S → Prop} {w : Nat} {l2 : Nat} {R : Nat → Nat} (hw : oX10 G w) (hp47 : oX4 G 47) (H : (okW R) ∧ ((rW A w R) ∧ ((∀ A1v1 : Nat → Nat → Nat, ((rW A1v1 w (baR R)) ∧ (∀ q, q ≠ w + 9 → q ≠ w + 9 + 1 → A1v1 q = A q)) → (okW (baR R)) ∧ ((rW A1v1 w (baR R)) ∧ ((lg A1v1 (baR R)) ∧ ((w + 15 ≤ 47) ∧ ((∀ A1v2 : Nat → Nat → Nat, ((rW A1v2 w (hoR (baR R) (tbF (baR R)))) ∧ (lg A1v2 (baR R)) ∧ (∀ q, q ≠ w + 11 → q ≠ w + 11 + 1 → (q < 61 ∨ 63 < q) → A1v2 q = A1v1 q)) → EvP X (d + 5) gvm_103 29 [some (.ref w), some (.ref 47), some (.int (nI l2))] [] (G, (mI A1v2, j), cc) P))))))))) : EvP X (d + 5) gvm_103 19 [some (.ref w), some (.ref 47), some (.int (nI l2))] [] (G, (mI A, j), cc) P :=
  (pv_aload_n rfl rfl   (match (c_stepBare (R := R) (w := w) (A := A) (X := X) (d := d + 1) (G := G) (j := j) (cc := cc) hw H.1 H.2.1 ) with | ⟨A1v1, e2x20, h1⟩ => pv_virt rfl rfl rfl rfl rfl (oX10_k hw) rfl rfl rfl e2x20 (pv_aload_n rfl rfl   (pv_aload_n rfl rfl   (match (c_stepHosted (R := (baR R)) (w := w) (A := A1v1) (X := X) (d := d + 0) (G := G) (j := j) (cc := cc) hw hp47 (H.2.2 A1v1 h1).1 (H.2.2 A1v1 h1).2.1 (H.2.2 A1v1 h1).2.2.1 (H.2.2 A1v1 h1).2.2.2.1 ) with | ⟨A1v2, e2x25, h2⟩ => pv_virt rfl rfl rfl rfl rfl (oX10_k hw) rfl rfl rfl e2x25 (pv_pop rfl rfl   ((H.2.2 A1v1 h1).2.2.2.2 A1v2 h2)))))))
theorem w103_29 {X : gv_X} {d : Nat} {G : gv_Sh} {A : Nat → Nat → Nat} {j : Nat → Nat → Int64} {cc : gv_Rs} {P : gv_O × gv_S → Prop} {w : Nat} {l2 : Nat} {R : Nat → Nat} (hw : oX10 G w) (hp47 : oX4 G 47) (H : (okW R) ∧ ((rW A w R) ∧ ((((alk R) = true) → EvP X (d + 5) gvm_103 6 [some (.ref w), some (.ref 47), some (.int (nI (l2 + 1)))] [] (G, (mI A, j), cc) P) ∧ (((alk R) = false) → P (.inl (some (.int (nI l2))), (G, (mI A, j), cc)))))) : EvP X (d + 5) gvm_103 29 [some (.ref w), some (.ref 47), some (.int (nI l2))] [] (G, (mI A, j), cc) P :=
  (pv_aload_n rfl rfl   (pv_virt rfl rfl rfl rfl rfl (oX10_k hw) rfl rfl rfl (c_viewsAlike (R := R) (w := w) (A := A) hw H.1 H.2.1 ) (pv_if_ne_zo rfl  (fun c1 => (pn_iinc rfl rfl rfl rfl   (pv_goto rfl (H.2.2.1 c1)))) (fun c1 => (pv_iload_n rfl rfl   (pv_ireti rfl rfl (H.2.2.2 c1)))))))
theorem c_firstLeak_p {X : gv_X} {d : Nat} {G : gv_Sh} {A : Nat → Nat → Nat} {j : Nat → Nat → Int64} {cc : gv_Rs} {P : gv_O × gv_S → Prop} {w : Nat} {R : Nat → Nat} (hw : oX10 G w) (hp47 : oX4 G 47) (p0 : okW R) (p1 : rW A w R) (p2 : lg A R) (p3 : w + 15 ≤ 47) (hP : ∀ A1 : Nat → Nat → Nat, (lg A1 R) ∧ (frW A A1 w) ∧ (∃ S, okW S ∧ eqG R S ∧ rW A1 w S) → P (.inl (some (.int (nI (lkN (tbF R) 60 1 (boR R))))), (G, (mI A1, j), cc))) : EvP X (d + 5) gvm_103 0 (gv_enter [.ref w, .ref 47] 3) [] (G, (mI A, j), cc) P := by
  have Lp : ∀ i k B S, k + i = 61 → 1 ≤ k → okW S → eqG R S → rW B w S → lg B R → frW A B w → alk S = true → lkN (tbF R) i k S = lkN (tbF R) 60 1 (boR R) → EvP X (d + 5) gvm_103 6 [some (.ref w), some (.ref 47), some (.int (nI k))] [] (G, (mI B, j), cc) P := by
    intro i
    induction i with
    | zero =>
      intro k B S hk k1 oS gS rB lB fB ha hl
      have xS := eqG_X gS
      exact w103_6 (R := R) hw hp47 ⟨by omega, fun c1 => qn (hP B ⟨lB, fB, S, oS, gS, rB⟩) hl.symm, fun c1 => absurd c1 (by omega)⟩
    | succ i ih =>
      intro k B S hk k1 oS gS rB lB fB ha hl
      have xS := eqG_X gS
      refine w103_6 (R := S) hw hp47 ⟨by omega, fun c1 => absurd c1 (by omega), fun c1 => ⟨oS, rB, fun c2 => ?_, fun c2 => ?_⟩⟩
      · refine qn (hP B ⟨lB, fB, S, oS, gS, rB⟩) ?_
        rw [← hl]; exact lkN_halt c2.1 c2.2 ha _ _
      · have oB := okW_ba oS
        have x2 : eqX S (baR S) := eqG_X (eqG_ba S)
        have x3 := eqX_tr xS x2
        have oH := okW_ho oB (tbF R)
        have x4 : eqX (baR S) (hoR (baR S) (tbF R)) := eqG_X (eqG_ho _ _)
        have g4 : eqG R (hoR (baR S) (tbF R)) := eqG_tr gS (eqG_tr (eqG_ba S) (eqG_ho _ _))
        have eT : hoR (baR S) (tbF (baR S)) = hoR (baR S) (tbF R) := hoR_T oB (fun p hp => by
          rw [x3 0 (by omega)] at hp
          exact tbF_XX p0 x3 hp)
        refine w103_19 (R := S) hw hp47 ⟨oS, rB, fun C h1 => ?_⟩
        have lC : lg C (baR S) := lg_X p0 (lg_of lB (fun q hq => h1.2 q (by omega) (by omega))) x3
        have fin : ∀ D, rW D w (hoR (baR S) (tbF R)) → lg D R → frW A D w → EvP X (d + 5) gvm_103 29 [some (.ref w), some (.ref 47), some (.int (nI k))] [] (G, (mI D, j), cc) P := by
          intro D rD lD fD
          have hl' : (if alk (hoR (baR S) (tbF R)) = true then lkN (tbF R) i (k + 1) (hoR (baR S) (tbF R)) else k) = lkN (tbF R) 60 1 (boR R) := hl
          refine w103_29 (R := hoR (baR S) (tbF R)) hw hp47 ⟨oH, rD, fun c3 => ih (k + 1) D _ (by omega) (by omega) oH g4 rD lD fD c3 ?_, fun c3 => qn (hP D ⟨lD, fD, _, oH, g4, rD⟩) ?_⟩
          · rw [if_pos c3] at hl'; exact hl'
          · rw [if_neg (by rw [c3]; decide)] at hl'; exact hl'.symm
        exact ⟨oB, h1.1, lC, p3, fun D h2 => fin D (by rw [← eT]; exact h2.1) (lg_X oB h2.2.1 (fun i hi => (x3 i hi).symm)) (fun q a b => by rw [h2.2.2 q (by omega) (by omega) b, h1.2 q (by omega) (by omega)]; exact fB q a b)⟩
  refine w103 (R := R) hw hp47 ⟨p0, p1, fun B h1 => w103_4 hw hp47 (Lp 60 1 B (boR R) rfl (Nat.le_refl _) (okW_bo p0) (eqG_bo R) h1.1 (lg_of p2 (fun q hq => h1.2 q (by omega) (by omega) (by omega) (by omega))) (fun q a b => h1.2 q (by omega) (by omega) (by omega) (by omega)) (alk_bo R) rfl)⟩
theorem c_firstLeak {X : gv_X} {d : Nat} {G : gv_Sh} {A : Nat → Nat → Nat} {j : Nat → Nat → Int64} {cc : gv_Rs} {w : Nat} {R : Nat → Nat} (hw : oX10 G w) (hp47 : oX4 G 47) (p0 : okW R) (p1 : rW A w R) (p2 : lg A R) (p3 : w + 15 ≤ 47) : ∃ A1 : Nat → Nat → Nat, Ev X (d + 5) gvm_103 0 (gv_enter [.ref w, .ref 47] 3) [] (G, (mI A, j), cc) (.inl (some (.int (nI (lkN (tbF R) 60 1 (boR R))))), (G, (mI A1, j), cc)) ∧ (lg A1 R) ∧ (frW A A1 w) ∧ (∃ S, okW S ∧ eqG R S ∧ rW A1 w S) := by
  obtain ⟨_, h, A1, rfl, hp⟩ := c_firstLeak_p (X := X) (d := d) (G := G) (A := A) (j := j) (cc := cc) (w := w) (R := R) (P := fun r => ∃ A1 : Nat → Nat → Nat, r = (.inl (some (.int (nI (lkN (tbF R) 60 1 (boR R))))), (G, (mI A1, j), cc)) ∧ (lg A1 R) ∧ (frW A A1 w) ∧ (∃ S, okW S ∧ eqG R S ∧ rW A1 w S)) hw hp47 p0 p1 p2 p3 (fun A1 h => ⟨A1, rfl, h⟩)
  exact ⟨A1, h, hp⟩
