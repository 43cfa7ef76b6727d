theorem c_likely_p {X : gv_X} {d : Nat} {G : gv_Sh} {A : Nat → Nat → Nat} {j : Nat → Nat → Int64} {cc : gv_Rs} {P : gv_O × gv_S → Prop} {t : Nat → Nat} {R : Nat → Nat} (hp0 : oX11 G 0) (p0 : cK A R) (p1 : A 0 1 ≤ 400) (p2 : ∀ i, i < A 0 1 → A 1 i < 256 ∧ t i = sx8 (A 1 i)) (hP : ∀ A1 : Nat → Nat → Nat, (cK A1 R) ∧ (frT2 A A1) → P (oc (fun _ => 0) (spLikely R t (A 0 1)).1 (spLikely R t (A 0 1)).2 (G, (mI A1, j), cc))) : EvP X (d + 7) gvm_159 0 (gv_enter [.ref 0] 5) [] (G, (mI A, j), cc) P := by
  have ok : ∀ B x, cK B R ∧ frT2 A B → spLikely R t (A 0 1) = (0, x) → P (.inl (some (.int (nI x))), (G, (mI B, j), cc)) := fun B x h1 h3 => by
    have := hP B h1
    rw [h3] at this
    exact this
  have no1 : ∀ B, cK B R ∧ frT2 A B → spLikely R t (A 0 1) = (1, 0) → P (.inr 0, gv_ex (G, (mI B, j), cc)) := fun B h1 h3 => by
    have := hP B h1
    rw [h3] at this
    exact this
  refine w159 (t := t) (R := R) hp0 ⟨p0, p1, p2, fun B h => ⟨fun c => ?_, fun c => no1 B ⟨h.2.1, h.1⟩ (by unfold spLikely; rw [if_neg c])⟩⟩
  obtain ⟨q1, q2⟩ := h.2.2 c
  have n := (okW_n q1.1).1
  have e0 : B 3 0 = R 0 := q1.2.1.1.1
  have L : ∀ f k, k + f = R 0 → ∀ l4, EvP X (d + 7) gvm_159 10 [some (.ref 0), some (.int (nI (lkB R t (A 0 1) k))), some (.int (nI (lkF R t (A 0 1) k))), some (.int (nI k)), l4] [] (G, (mI B, j), cc) P := by
    intro f
    induction f with
    | zero =>
      intro k hk l4
      obtain rfl : k = R 0 := by omega
      refine w159_10 (t := t) (E := A 0 1) (R := R) hp0 ⟨by omega, by omega, fun _ => ?_, fun c => absurd c (by omega)⟩
      exact ok B _ ⟨h.2.1, h.1⟩ (by unfold spLikely; rw [if_pos c, lkB_e])
    | succ f ih =>
      intro k hk l4
      have hw : wrN R (tbF R) t (A 0 1) k ≤ A 0 1 / 2 := cntN_le _ _
      have := q2.2.2.1
      have lf := @lkF_le R t (A 0 1) k
      obtain ⟨s1, s2⟩ := lk_s (R := R) (t := t) (E := A 0 1) (k := k) (by omega)
      have ih := fun l => ih (k + 1) (by omega) l
      rw [s1, s2] at ih
      refine w159_10 (t := t) (E := A 0 1) (R := R) hp0 ⟨by omega, by omega, fun c => absurd c (by omega), fun _ => ⟨q1, by omega, q2, by omega, by omega, fun c2 => ?_, fun c2 => ?_⟩⟩
      · rw [if_neg (by omega), if_neg (by omega)] at ih; exact ih _
      · rw [if_pos c2, if_pos c2] at ih; exact ih _
  exact w159_4 hp0 (L (R 0) 0 (Nat.zero_add _) none)
theorem w161 {X : gv_X} {d : Nat} {G : gv_Sh} {A : Nat → Nat → Nat} {j : Nat → Nat → Int64} {cc : gv_Rs} {P : gv_O × gv_S → Prop} {s : Nat} {w : Nat} (hp0 : oX11 G 0) (H : EvP X (d + 4) gvm_161 5 [some (.ref 0), some (.int (nI s)), some (.int (nI w)), some (.int (nI 0)), some (.int (nI 0)), none, none] [] (G, (mI A, j), cc) P) : EvP X (d + 4) gvm_161 0 (gv_enter [.ref 0, .int (nI s), .int (nI w)] 7) [] (G, (mI A, j), cc) P :=
  (pn_iconst rfl rfl   (pv_istore_n rfl rfl   (pn_iconst rfl rfl   (pv_istore rfl rfl   H))))
theorem w161_5 {X : gv_X} {d : Nat} {G : gv_Sh} {A : Nat → Nat → Nat} {j : Nat → Nat → Int64} {cc : gv_Rs} {P : gv_O × gv_S → Prop} {s : Nat} {w : Nat} {l3 : Nat} {l4 : Nat} {l5 : Option Value} {l6 : Option Value} (hp0 : oX11 G 0) (H : (l4 < 2147483648) ∧ (((10 < l4) → P (.inl (some (.int (nI l3))), (G, (mI A, j), cc))) ∧ ((l4 ≤ 10) → EvP X (d + 4) gvm_161 18 [some (.ref 0), some (.int (nI s)), some (.int (nI w)), some (.int (nI l3)), some (.int (nI l4)), some (.int (nI 0)), some (.int (nI 0))] [] (G, (mI A, j), cc) P))) : EvP X (d + 4) gvm_161 5 [some (.ref 0), some (.int (nI s)), some (.int (nI w)), some (.int (nI l3)), some (.int (nI l4)), l5, l6] [] (G, (mI A, j), cc) P :=
  (pv_iload rfl rfl   (pn_bipush rfl rfl   (pn_ic_gt rfl H.1 (by decide) (fun c1 => (pv_iload_n rfl rfl   (pv_ireti rfl rfl (H.2.1 c1)))) (fun c1 => (pn_iconst rfl rfl   (pv_istore rfl rfl   (pn_iconst rfl rfl   (pv_istore rfl rfl   (H.2.2 c1)))))))))
theorem w161_18 {X : gv_X} {d : Nat} {G : gv_Sh} {A : Nat → Nat → Nat} {j : Nat → Nat → Int64} {cc : gv_Rs} {P : gv_O × gv_S → Prop} {s : Nat} {w : Nat} {l3 : Nat} {l4 : Nat} {l5 : Nat} {l6 : Nat} {R : Nat → Nat} (hp0 : oX11 G 0) (H : (l6 < 2147483648) ∧ (((A 3 0) < 2147483648) ∧ ((((A 3 0) ≤ l6) → (l3 < 2147483648) ∧ ((l5 < 2147483648) ∧ (EvP X (d + 4) gvm_161 5 [some (.ref 0), some (.int (nI s)), some (.int (nI w)), some (.int (nI (max l3 l5))), some (.int (nI (l4 + 1))), some (.int (nI l5)), some (.int (nI l6))] [] (G, (mI A, j), cc) P))) ∧ ((l6 < (A 3 0)) → (s < 2147483648) ∧ ((l6 < 32) ∧ ((((s / 2 ^ l6) % 2) < 4294967296) ∧ (((¬ ((s / 2 ^ l6) % 2) = 1) → EvP X (d + 4) gvm_161 18 [some (.ref 0), some (.int (nI s)), some (.int (nI w)), some (.int (nI l3)), some (.int (nI l4)), some (.int (nI l5)), some (.int (nI (l6 + 1)))] [] (G, (mI A, j), cc) P) ∧ ((((s / 2 ^ l6) % 2) = 1) → (cQ A R) ∧ ((l6 < R 0) ∧ ((w ≤ 6) ∧ (((whF R (tbF R) l6 w) < 4294967296) ∧ ((l4 < 4294967296) ∧ (((¬ (whF R (tbF R) l6 w) = l4) → EvP X (d + 4) gvm_161 18 [some (.ref 0), some (.int (nI s)), some (.int (nI w)), some (.int (nI l3)), some (.int (nI l4)), some (.int (nI l5)), some (.int (nI (l6 + 1)))] [] (G, (mI A, j), cc) P) ∧ (((whF R (tbF R) l6 w) = l4) → EvP X (d + 4) gvm_161 18 [some (.ref 0), some (.int (nI s)), some (.int (nI w)), some (.int (nI l3)), some (.int (nI l4)), some (.int (nI (l5 + 1))), some (.int (nI (l6 + 1)))] [] (G, (mI A, j), cc) P)))))))))))))) : EvP X (d + 4) gvm_161 18 [some (.ref 0), some (.int (nI s)), some (.int (nI w)), some (.int (nI l3)), some (.int (nI l4)), some (.int (nI l5)), some (.int (nI l6))] [] (G, (mI A, j), cc) P :=
  (pv_iload rfl rfl   (pv_aload_n rfl rfl   (pv_getP rfl rfl (oX11_k hp0) (oX11_3 hp0)   (pv_getP rfl rfl (oX10_k (oX11_3c hp0)) (oX10_0 (oX11_3c hp0))   (pn_getI rfl rfl (oX6_k (oX10_0c (oX11_3c hp0))) rfl   (pn_ic_ge rfl H.1 H.2.1 (fun c1 => (pv_iload_n rfl rfl   (pv_iload rfl rfl   (pv_stat rfl rfl rfl rfl rfl rfl rfl rfl (k_max (a := l3) (b := l5) (A := A) (H.2.2.1 c1).1 (H.2.2.1 c1).2.1 ) (pv_istore_n rfl rfl   (pn_iinc rfl rfl rfl rfl   (pv_goto rfl (H.2.2.1 c1).2.2))))))) (fun c1 => (pv_iload_n rfl rfl   (pv_iload rfl rfl   (pn_ishr rfl (H.2.2.2 c1).1 (H.2.2.2 c1).2.1  (pn_iconst rfl rfl   (pn_iandm 1 2 rfl rfl rfl   (pn_iconst rfl rfl   (pn_ic_ne rfl (H.2.2.2 c1).2.2.1 (by decide) (fun c2 => (pn_iinc rfl rfl rfl rfl   (pv_goto rfl ((H.2.2.2 c1).2.2.2.1 c2)))) (fun c2 => (pv_aload_n rfl rfl   (pv_iload rfl rfl   (pv_iload_n rfl rfl   (pv_virt rfl rfl rfl rfl rfl (oX11_k hp0) rfl rfl rfl (c_feature (p := l6) (w := w) (R := R) (A := A) hp0 ((H.2.2.2 c1).2.2.2.2 c2).1 ((H.2.2.2 c1).2.2.2.2 c2).2.1 ((H.2.2.2 c1).2.2.2.2 c2).2.2.1 ) (pv_iload rfl rfl   (pn_ic_ne rfl ((H.2.2.2 c1).2.2.2.2 c2).2.2.2.1 ((H.2.2.2 c1).2.2.2.2 c2).2.2.2.2.1 (fun c3 => (pn_iinc rfl rfl rfl rfl   (pv_goto rfl (((H.2.2.2 c1).2.2.2.2 c2).2.2.2.2.2.1 c3)))) (fun c3 => (pn_iinc rfl rfl rfl rfl   (pn_iinc rfl rfl rfl rfl   (pv_goto rfl (((H.2.2.2 c1).2.2.2.2 c2).2.2.2.2.2.2 c3))))))))))))))))))))))))))
theorem c_greatestPart_p {X : gv_X} {d : Nat} {G : gv_Sh} {A : Nat → Nat → Nat} {j : Nat → Nat → Int64} {cc : gv_Rs} {P : gv_O × gv_S → Prop} {s : Nat} {w : Nat} {R : Nat → Nat} (hp0 : oX11 G 0) (p0 : cQ A R) (p1 : s < 256) (p2 : w ≤ 6) (hP : P (.inl (some (.int (nI (ptN R (tbF R) s w 11)))), (G, (mI A, j), cc))) : EvP X (d + 4) gvm_161 0 (gv_enter [.ref 0, .int (nI s), .int (nI w)] 7) [] (G, (mI A, j), cc) P := by
  have n := (okW_n p0.1).1
  have ro : rO A 3 R := p0.2.1.1
  have e0 : A 3 0 = R 0 := ro.1
  have L : ∀ f v, v + f = 11 → ∀ l5 l6, EvP X (d + 4) gvm_161 5 [some (.ref 0), some (.int (nI s)), some (.int (nI w)), some (.int (nI (ptN R (tbF R) s w v))), some (.int (nI v)), l5, l6] [] (G, (mI A, j), cc) P := by
    intro f
    induction f with
    | zero =>
      intro v hv l5 l6
      obtain rfl : v = 11 := by omega
      exact w161_5 hp0 ⟨by omega, fun _ => hP, fun c => absurd c (by omega)⟩
    | succ f ih =>
      intro v hv l5 l6
      have hpt := ptN_le (R := R) (T := tbF R) (s := s) (w := w) v
      have Lp : ∀ g p, p + g = R 0 → EvP X (d + 4) gvm_161 18 [some (.ref 0), some (.int (nI s)), some (.int (nI w)), some (.int (nI (ptN R (tbF R) s w v))), some (.int (nI v)), some (.int (nI (cntN (fun p => decide (s / 2 ^ p % 2 = 1) && decide (whF R (tbF R) p w = v)) p))), some (.int (nI p))] [] (G, (mI A, j), cc) P := by
        intro g
        induction g with
        | zero =>
          intro p hp
          obtain rfl : p = R 0 := by omega
          have hc := cntN_le (fun p => decide (s / 2 ^ p % 2 = 1) && decide (whF R (tbF R) p w = v)) (R 0)
          exact w161_18 (R := R) hp0 ⟨by omega, by omega, fun _ => ⟨by omega, by omega, ih (v + 1) (by omega) _ _⟩, fun c => absurd c (by omega)⟩
        | succ g ihp =>
          intro p hp
          have ihp := ihp (p + 1) (by omega)
          have hw := whF_lt (T := tbF R) p0.1 (w := w) (p := p) (by omega)
          rw [show cntN (fun p => decide (s / 2 ^ p % 2 = 1) && decide (whF R (tbF R) p w = v)) (p + 1) = cntN (fun p => decide (s / 2 ^ p % 2 = 1) && decide (whF R (tbF R) p w = v)) p + (decide (s / 2 ^ p % 2 = 1) && decide (whF R (tbF R) p w = v)).toNat from rfl] at ihp
          refine w161_18 (R := R) hp0 ⟨by omega, by omega, fun c => absurd c (by omega), fun _ => ⟨by omega, by omega, by omega, fun c2 => ?_, fun c2 => ⟨p0, by omega, p2, by omega, by omega, fun c3 => ?_, fun c3 => ?_⟩⟩⟩
          · rw [decide_eq_false c2, Bool.false_and] at ihp; exact ihp
          · rw [decide_eq_false c3, Bool.and_false] at ihp; exact ihp
          · rw [decide_eq_true c2, decide_eq_true c3] at ihp; exact ihp
      exact w161_5 hp0 ⟨by omega, fun c => absurd c (by omega), fun _ => Lp (R 0) 0 (Nat.zero_add _)⟩
  exact w161 hp0 (L 11 0 (by omega) none none)
theorem c_greatestPart {X : gv_X} {d : Nat} {G : gv_Sh} {A : Nat → Nat → Nat} {j : Nat → Nat → Int64} {cc : gv_Rs} {s : Nat} {w : Nat} {R : Nat → Nat} (hp0 : oX11 G 0) (p0 : cQ A R) (p1 : s < 256) (p2 : w ≤ 6) : Ev X (d + 4) gvm_161 0 (gv_enter [.ref 0, .int (nI s), .int (nI w)] 7) [] (G, (mI A, j), cc) (.inl (some (.int (nI (ptN R (tbF R) s w 11)))), (G, (mI A, j), cc)) := evp_det (c_greatestPart_p hp0 p0 p1 p2 rfl)
