theorem w155 {X : gv_X} {d : Nat} {G : gv_Sh} {A : Nat → Nat → Nat} {j : Nat → Nat → Int64} {cc : gv_Rs} {P : gv_O × gv_S → Prop} {p : Nat} {w : Nat} {R : Nat → Nat} (hp0 : oX11 G 0) (H : (w < 4294967296) ∧ ((w = 0 → (p < 4294967296) ∧ ((A 3 0 ≤ 8) ∧ (P (.inl (some (.int (nI (if p < A 3 0 then A (3 + 1) p else 0)))), (G, (mI A, j), cc))))) ∧ (w = 1 → (p < 4294967296) ∧ ((A 3 0 ≤ 8) ∧ ((∀ z, z < A 3 0 → A (3 + 4) z ≤ 1) ∧ (((¬ (p < A 3 0 ∧ A (3 + 4) p = 1)) → P (.inl (some (.int (nI 0))), (G, (mI A, j), cc))) ∧ ((p < A 3 0 ∧ A (3 + 4) p = 1) → P (.inl (some (.int (nI 1))), (G, (mI A, j), cc))))))) ∧ (w = 6 → (p < 4294967296) ∧ ((A 3 0 ≤ 8) ∧ ((∀ z, z < A 3 0 → A (3 + 1) z ≤ 3) ∧ (P (.inl (some (.int (nI (if p < A 3 0 ∧ 0 < A (3 + 1) p then A (3 + 2) (p * 3 + 0) else 4294967295)))), (G, (mI A, j), cc)))))) ∧ ((¬ w = 0 ∧ ¬ w = 1 ∧ ¬ w = 6) → (2 ≤ w) ∧ ((cQ A R) ∧ ((p < R 0) ∧ (((w - 2) < 4) ∧ (((¬ (¬ wit R p (w - 2) = 4294967295)) → P (.inl (some (.int (nI 0))), (G, (mI A, j), cc))) ∧ ((¬ wit R p (w - 2) = 4294967295) → P (.inl (some (.int (nI 1))), (G, (mI A, j), cc)))))))))) : EvP X (d + 3) gvm_155 0 (gv_enter [.ref 0, .int (nI p), .int (nI w)] 3) [] (G, (mI A, j), cc) P :=
  (pv_iload_n rfl rfl   (Or.elim (Decidable.em (w = 0)) (fun c1e => (pn_lsw 0 36 (o := (35)) rfl c1e (by decide) rfl rfl (pv_aload_n rfl rfl   (pv_getP rfl rfl (oX11_k hp0) (oX11_3 hp0)   (pv_getP rfl rfl (oX10_k (oX11_3c hp0)) (oX10_0 (oX11_3c hp0))   (pv_iload_n rfl rfl   (pv_virt rfl rfl rfl rfl rfl (oX6_k (oX10_0c (oX11_3c hp0))) rfl rfl rfl (c_size (p := p) (A := A) (oX10_0c (oX11_3c hp0)) (H.2.1 c1e).1 (H.2.1 c1e).2.1 ) (pv_ireti rfl rfl (H.2.1 c1e).2.2)))))))) (fun c1n0 => (Or.elim (Decidable.em (w = 1)) (fun c1e => (pn_lsw 1 48 (o := (47)) rfl c1e (by decide) rfl rfl (pv_aload_n rfl rfl   (pv_getP rfl rfl (oX11_k hp0) (oX11_3 hp0)   (pv_getP rfl rfl (oX10_k (oX11_3c hp0)) (oX10_0 (oX11_3c hp0))   (pv_iload_n rfl rfl   (pv_virt rfl rfl rfl rfl rfl (oX6_k (oX10_0c (oX11_3c hp0))) rfl rfl rfl (c_isGuarded (p := p) (A := A) (oX10_0c (oX11_3c hp0)) (H.2.2.1 c1e).1 (H.2.2.1 c1e).2.1 (H.2.2.1 c1e).2.2.1 ) (pv_if_eq_dc rfl  (fun c2 => (pn_iconst rfl rfl   (pv_ireti rfl rfl ((H.2.2.1 c1e).2.2.2.1 c2)))) (fun c2 => (pn_iconst rfl rfl   (pv_goto rfl (pv_ireti rfl rfl ((H.2.2.1 c1e).2.2.2.2 c2))))))))))))) (fun c1n1 => (Or.elim (Decidable.em (w = 6)) (fun c1e => (pn_lsw 6 68 (o := (67)) rfl c1e (by decide) rfl rfl (pv_aload_n rfl rfl   (pv_getP rfl rfl (oX11_k hp0) (oX11_3 hp0)   (pv_getP rfl rfl (oX10_k (oX11_3c hp0)) (oX10_0 (oX11_3c hp0))   (pv_iload_n rfl rfl   (pn_iconst rfl rfl   (pv_virt rfl rfl rfl rfl rfl (oX6_k (oX10_0c (oX11_3c hp0))) rfl rfl rfl (c_kindAt (p := p) (k := 0) (A := A) (oX10_0c (oX11_3c hp0)) (H.2.2.2.1 c1e).1 (by decide) (H.2.2.2.1 c1e).2.1 (H.2.2.2.1 c1e).2.2.1 ) (pv_ireti rfl rfl (H.2.2.2.1 c1e).2.2.2))))))))) (fun c1n2 => (have c1d : ¬ w = 0 ∧ ¬ w = 1 ∧ ¬ w = 6 := (by omega); pn_lswD 81 rfl (by have c1u := H.1; intro p hp; simp only [List.mem_cons, List.not_mem_nil, or_false] at hp; rcases hp with rfl | rfl | rfl <;> (rw [nn_i]; omega)) rfl (pv_aload_n rfl rfl   (pv_iload_n rfl rfl   (pv_iload_n rfl rfl   (pn_iconst rfl rfl   (pn_isub rfl (H.2.2.2.2 c1d).1  (pv_virt rfl rfl rfl rfl rfl (oX11_k hp0) rfl rfl rfl (c_gshows (p := p) (h := (w - 2)) (R := R) (A := A) hp0 (H.2.2.2.2 c1d).2.1 (H.2.2.2.2 c1d).2.2.1 (H.2.2.2.2 c1d).2.2.2.1 ) (pv_if_eq_dc rfl  (fun c3 => (pn_iconst rfl rfl   (pv_ireti rfl rfl ((H.2.2.2.2 c1d).2.2.2.2.1 c3)))) (fun c3 => (pn_iconst rfl rfl   (pv_goto rfl (pv_ireti rfl rfl ((H.2.2.2.2 c1d).2.2.2.2.2 c3))))))))))))))))))))
theorem c_feature_p {X : gv_X} {d : Nat} {G : gv_Sh} {A : Nat → Nat → Nat} {j : Nat → Nat → Int64} {cc : gv_Rs} {P : gv_O × gv_S → Prop} {p : Nat} {w : Nat} {R : Nat → Nat} (hp0 : oX11 G 0) (p0 : cQ A R) (p1 : p < R 0) (p2 : w ≤ 6) (hP : P (.inl (some (.int (nI (whF R (tbF R) p w)))), (G, (mI A, j), cc))) : EvP X (d + 3) gvm_155 0 (gv_enter [.ref 0, .int (nI p), .int (nI w)] 3) [] (G, (mI A, j), cc) P := by
  have n := (okW_n p0.1).1
  have ro : rO A 3 R := p0.2.1.1
  have e0 : A 3 0 = R 0 := ro.1
  have og := okW_o p0.1 (p := p) (by omega)
  have o1 := okW_1 p0.1 p1
  obtain ⟨b0, b1, b2, b3, b4⟩ := tbF_b R p
  have n8 := rO_n ro p0.1
  refine w155 (R := R) hp0 ⟨by omega, fun c1 => ⟨by omega, n8, qn hP ?_⟩, fun c1 => ⟨by omega, n8, rO_g ro p0.1, fun c2 => qn hP ?_, fun c2 => qn hP ?_⟩, fun c1 => ⟨by omega, n8, rO_s ro p0.1, qn hP ?_⟩, fun c1 => ⟨by omega, p0, p1, by omega, fun c2 => qn hP ?_, fun c2 => qn hP ?_⟩⟩
  · rw [rO_sz ro p1, c1]; rfl
  · have := _root_.mt (rO_gd ro p1).mpr c2
    rw [c1]
    show R (30 + 9 * p + 1) = 0
    omega
  · have := (rO_gd ro p1).mp c2
    rw [c1]; exact this
  · rw [rO_kd ro p1 (by omega), c1]; rfl
  · have c2 := Decidable.not_not.mp c2
    unfold whF
    rw [if_neg (by omega), if_neg (by omega)]
    rcases (by omega : w = 2 ∨ w = 3 ∨ w = 4 ∨ w = 5) with rfl | rfl | rfl | rfl
    · show tbF R p / 1 % 2 = 0; rw [Nat.div_one, b0, if_pos c2]
    · show tbF R p / 2 % 2 = 0; rw [b1, if_pos c2]
    · show tbF R p / 4 % 2 = 0; rw [b2, if_pos c2]
    · show tbF R p / 8 % 2 = 0; rw [b3, if_pos c2]
  · unfold whF
    rw [if_neg (by omega), if_neg (by omega)]
    rcases (by omega : w = 2 ∨ w = 3 ∨ w = 4 ∨ w = 5) with rfl | rfl | rfl | rfl
    · show tbF R p / 1 % 2 = 1; rw [Nat.div_one, b0, if_neg c2]
    · show tbF R p / 2 % 2 = 1; rw [b1, if_neg c2]
    · show tbF R p / 4 % 2 = 1; rw [b2, if_neg c2]
    · show tbF R p / 8 % 2 = 1; rw [b3, if_neg c2]
theorem c_feature {X : gv_X} {d : Nat} {G : gv_Sh} {A : Nat → Nat → Nat} {j : Nat → Nat → Int64} {cc : gv_Rs} {p : Nat} {w : Nat} {R : Nat → Nat} (hp0 : oX11 G 0) (p0 : cQ A R) (p1 : p < R 0) (p2 : w ≤ 6) : Ev X (d + 3) gvm_155 0 (gv_enter [.ref 0, .int (nI p), .int (nI w)] 3) [] (G, (mI A, j), cc) (.inl (some (.int (nI (whF R (tbF R) p w)))), (G, (mI A, j), cc)) := evp_det (c_feature_p hp0 p0 p1 p2 rfl)
theorem w156 {X : gv_X} {d : Nat} {G : gv_Sh} {A : Nat → Nat → Nat} {j : Nat → Nat → Int64} {cc : gv_Rs} {P : gv_O × gv_S → Prop} {p : Nat} (hp0 : oX11 G 0) (H : EvP X (d + 4) gvm_156 4 [some (.ref 0), some (.int (nI p)), some (.int (nI 0)), some (.int (nI 0))] [] (G, (mI A, j), cc) P) : EvP X (d + 4) gvm_156 0 (gv_enter [.ref 0, .int (nI p)] 4) [] (G, (mI A, j), cc) P :=
  (pn_iconst rfl rfl   (pv_istore_n rfl rfl   (pn_iconst rfl rfl   (pv_istore_n rfl rfl   H))))
theorem w156_4 {X : gv_X} {d : Nat} {G : gv_Sh} {A : Nat → Nat → Nat} {j : Nat → Nat → Int64} {cc : gv_Rs} {P : gv_O × gv_S → Prop} {p : Nat} {l2 : Nat} {l3 : Nat} {R : Nat → Nat} (hp0 : oX11 G 0) (H : (l3 < 2147483648) ∧ (((A 258 1) < 2147483648) ∧ ((((A 258 1) ≤ l3) → P (.inl (some (.int (nI l2))), (G, (mI A, j), cc))) ∧ ((l3 < (A 258 1)) → (l3 < 4294967296) ∧ ((A 258 1 ≤ 400) ∧ ((cQ A R) ∧ ((p < R 0) ∧ (((if l3 < A 258 1 then A 259 l3 else 4294967295) ≤ 6) ∧ (((l3 + 1) < 4294967296) ∧ ((A 258 1 ≤ 400) ∧ (((whF R (tbF R) p (if l3 < A 258 1 then A 259 l3 else 4294967295)) < 4294967296) ∧ (((if (l3 + 1) < A 258 1 then A 259 (l3 + 1) else 4294967295) < 4294967296) ∧ ((((whF R (tbF R) p (if l3 < A 258 1 then A 259 l3 else 4294967295)) = (if (l3 + 1) < A 258 1 then A 259 (l3 + 1) else 4294967295)) → EvP X (d + 4) gvm_156 4 [some (.ref 0), some (.int (nI p)), some (.int (nI l2)), some (.int (nI (l3 + 2)))] [] (G, (mI A, j), cc) P) ∧ ((¬ (whF R (tbF R) p (if l3 < A 258 1 then A 259 l3 else 4294967295)) = (if (l3 + 1) < A 258 1 then A 259 (l3 + 1) else 4294967295)) → EvP X (d + 4) gvm_156 4 [some (.ref 0), some (.int (nI p)), some (.int (nI (l2 + 1))), some (.int (nI (l3 + 2)))] [] (G, (mI A, j), cc) P)))))))))))))) : EvP X (d + 4) gvm_156 4 [some (.ref 0), some (.int (nI p)), some (.int (nI l2)), some (.int (nI l3))] [] (G, (mI A, j), cc) P :=
  (pv_iload_n rfl rfl   (pv_aload_n rfl rfl   (pv_getP rfl rfl (oX11_k hp0) (oX11_11 hp0)   (pn_getI rfl rfl (oX7_k (oX11_11c hp0)) rfl   (pn_ic_ge rfl H.1 H.2.1 (fun c1 => (pv_iload_n rfl rfl   (pv_ireti rfl rfl (H.2.2.1 c1)))) (fun c1 => (pv_aload_n rfl rfl   (pv_iload_n rfl rfl   (pv_aload_n rfl rfl   (pv_getP rfl rfl (oX11_k hp0) (oX11_11 hp0)   (pv_iload_n rfl rfl   (pv_virt rfl rfl rfl rfl rfl (oX7_k (oX11_11c hp0)) rfl rfl rfl (c_byteAt (i := l3) (A := A) (oX11_11c hp0) (H.2.2.2 c1).1 (H.2.2.2 c1).2.1 ) (pv_virt rfl rfl rfl rfl rfl (oX11_k hp0) rfl rfl rfl (c_feature (p := p) (w := (if l3 < A 258 1 then A 259 l3 else 4294967295)) (R := R) (A := A) hp0 (H.2.2.2 c1).2.2.1 (H.2.2.2 c1).2.2.2.1 (H.2.2.2 c1).2.2.2.2.1 ) (pv_aload_n rfl rfl   (pv_getP rfl rfl (oX11_k hp0) (oX11_11 hp0)   (pv_iload_n rfl rfl   (pn_iconst rfl rfl   (pn_iadd rfl   (pv_virt rfl rfl rfl rfl rfl (oX7_k (oX11_11c hp0)) rfl rfl rfl (c_byteAt (i := (l3 + 1)) (A := A) (oX11_11c hp0) (H.2.2.2 c1).2.2.2.2.2.1 (H.2.2.2 c1).2.2.2.2.2.2.1 ) (pn_ic_eq rfl (H.2.2.2 c1).2.2.2.2.2.2.2.1 (H.2.2.2 c1).2.2.2.2.2.2.2.2.1 (fun c2 => (pn_iinc rfl rfl rfl rfl   (pv_goto rfl ((H.2.2.2 c1).2.2.2.2.2.2.2.2.2.1 c2)))) (fun c2 => (pn_iinc rfl rfl rfl rfl   (pn_iinc rfl rfl rfl rfl   (pv_goto rfl ((H.2.2.2 c1).2.2.2.2.2.2.2.2.2.2 c2)))))))))))))))))))))))))
theorem c_wrongRows_p {X : gv_X} {d : Nat} {G : gv_Sh} {A : Nat → Nat → Nat} {j : Nat → Nat → Int64} {cc : gv_Rs} {P : gv_O × gv_S → Prop} {p : Nat} {t : Nat → Nat} {E : Nat} {R : Nat → Nat} (hp0 : oX11 G 0) (p0 : cQ A R) (p1 : p < R 0) (p2 : tdI A t E) (hP : P (.inl (some (.int (nI (wrN R (tbF R) t E p)))), (G, (mI A, j), cc))) : EvP X (d + 4) gvm_156 0 (gv_enter [.ref 0, .int (nI p)] 4) [] (G, (mI A, j), cc) P := by
  have n := (okW_n p0.1).1
  obtain ⟨d1, d2, d3, d4, d5⟩ := p2
  have L : ∀ f r, r + f = E / 2 → EvP X (d + 4) gvm_156 4 [some (.ref 0), some (.int (nI p)), some (.int (nI (cntN (fun r => !decide (whF R (tbF R) p (t (2 * r)) = t (2 * r + 1))) r))), some (.int (nI (2 * r)))] [] (G, (mI A, j), cc) P := by
    intro f
    induction f with
    | zero =>
      intro r hr
      obtain rfl : r = E / 2 := by omega
      exact w156_4 (R := R) hp0 ⟨by omega, by omega, fun _ => hP, fun c => absurd c (by omega)⟩
    | succ f ih =>
      intro r hr
      have ih := ih (r + 1) (by omega)
      have q := d4 r (by omega)
      have hw := whF_lt (T := tbF R) p0.1 (p := p) (w := A 259 (2 * r)) (by omega)
      have e0 : (if 2 * r < A 258 1 then A 259 (2 * r) else 4294967295) = A 259 (2 * r) := if_pos (by omega)
      have e1 : (if 2 * r + 1 < A 258 1 then A 259 (2 * r + 1) else 4294967295) = A 259 (2 * r + 1) := if_pos (by omega)
      have t0 := d5 (2 * r) (by omega)
      have t1 := d5 (2 * r + 1) (by omega)
      refine w156_4 (R := R) hp0 ⟨by omega, by omega, fun c => absurd c (by omega), fun _ => ⟨by omega, by omega, ?_⟩⟩
      rw [e0, e1]
      rw [show 2 * (r + 1) = 2 * r + 2 by omega, show cntN (fun r => !decide (whF R (tbF R) p (t (2 * r)) = t (2 * r + 1))) (r + 1) = cntN (fun r => !decide (whF R (tbF R) p (t (2 * r)) = t (2 * r + 1))) r + (!decide (whF R (tbF R) p (t (2 * r)) = t (2 * r + 1))).toNat from rfl, ← t0, ← t1] at ih
      refine ⟨p0, p1, q.1, by omega, by omega, by omega, by omega, fun c2 => ?_, fun c2 => ?_⟩
      · rw [decide_eq_true c2] at ih; exact ih
      · rw [decide_eq_false c2] at ih; exact ih
  exact w156 hp0 (L (E / 2) 0 (by omega))
theorem c_wrongRows {X : gv_X} {d : Nat} {G : gv_Sh} {A : Nat → Nat → Nat} {j : Nat → Nat → Int64} {cc : gv_Rs} {p : Nat} {t : Nat → Nat} {E : Nat} {R : Nat → Nat} (hp0 : oX11 G 0) (p0 : cQ A R) (p1 : p < R 0) (p2 : tdI A t E) : Ev X (d + 4) gvm_156 0 (gv_enter [.ref 0, .int (nI p)] 4) [] (G, (mI A, j), cc) (.inl (some (.int (nI (wrN R (tbF R) t E p)))), (G, (mI A, j), cc)) := evp_det (c_wrongRows_p hp0 p0 p1 p2 rfl)
theorem w157 {X : gv_X} {d : Nat} {G : gv_Sh} {A : Nat → Nat → Nat} {j : Nat → Nat → Int64} {cc : gv_Rs} {P : gv_O × gv_S → Prop}  (hp0 : oX11 G 0) (H : EvP X (d + 5) gvm_157 4 [some (.ref 0), some (.int (nI 0)), some (.int (nI 0))] [] (G, (mI A, j), cc) P) : EvP X (d + 5) gvm_157 0 (gv_enter [.ref 0] 3) [] (G, (mI A, j), cc) P :=
  (pn_iconst rfl rfl   (pv_istore_n rfl rfl   (pn_iconst rfl rfl   (pv_istore_n rfl rfl   H))))
theorem w157_4 {X : gv_X} {d : Nat} {G : gv_Sh} {A : Nat → Nat → Nat} {j : Nat → Nat → Int64} {cc : gv_Rs} {P : gv_O × gv_S → Prop} {l1 : Nat} {l2 : Nat} {t : Nat → Nat} {E : Nat} {R : Nat → Nat} (hp0 : oX11 G 0) (H : (l2 < 2147483648) ∧ (((A 3 0) < 2147483648) ∧ ((((A 3 0) ≤ l2) → P (.inl (some (.int (nI l1))), (G, (mI A, j), cc))) ∧ ((l2 < (A 3 0)) → (cQ A R) ∧ ((l2 < R 0) ∧ ((tdI A t E) ∧ (((wrN R (tbF R) t E l2) < 2147483648) ∧ (((1 < (wrN R (tbF R) t E l2)) → EvP X (d + 5) gvm_157 4 [some (.ref 0), some (.int (nI l1)), some (.int (nI (l2 + 1)))] [] (G, (mI A, j), cc) P) ∧ (((wrN R (tbF R) t E l2) ≤ 1) → (l2 < 32) ∧ (EvP X (d + 5) gvm_157 4 [some (.ref 0), some (.int (nI (l1 ||| (2 ^ l2)))), some (.int (nI (l2 + 1)))] [] (G, (mI A, j), cc) P)))))))))) : EvP X (d + 5) gvm_157 4 [some (.ref 0), some (.int (nI l1)), some (.int (nI l2))] [] (G, (mI A, j), cc) P :=
  (pv_iload_n rfl rfl   (pv_aload_n rfl rfl   (pv_getP rfl rfl (oX11_k hp0) (oX11_3 hp0)   (pv_getP rfl rfl (oX10_k (oX11_3c hp0)) (oX10_0 (oX11_3c hp0))   (pn_getI rfl rfl (oX6_k (oX10_0c (oX11_3c hp0))) rfl   (pn_ic_ge rfl H.1 H.2.1 (fun c1 => (pv_iload_n rfl rfl   (pv_ireti rfl rfl (H.2.2.1 c1)))) (fun c1 => (pv_aload_n rfl rfl   (pv_iload_n rfl rfl   (pv_virt rfl rfl rfl rfl rfl (oX11_k hp0) rfl rfl rfl (c_wrongRows (p := l2) (t := t) (E := E) (R := R) (A := A) hp0 (H.2.2.2 c1).1 (H.2.2.2 c1).2.1 (H.2.2.2 c1).2.2.1 ) (pn_iconst rfl rfl   (pn_ic_gt rfl (H.2.2.2 c1).2.2.2.1 (by decide) (fun c2 => (pn_iinc rfl rfl rfl rfl   (pv_goto rfl ((H.2.2.2 c1).2.2.2.2.1 c2)))) (fun c2 => (pv_iload_n rfl rfl   (pn_iconst rfl rfl   (pv_iload_n rfl rfl   (pn_ishl1 rfl ((H.2.2.2 c1).2.2.2.2.2 c2).1  (pn_ior rfl   (pv_istore_n rfl rfl   (pn_iinc rfl rfl rfl rfl   (pv_goto rfl ((H.2.2.2 c1).2.2.2.2.2 c2).2)))))))))))))))))))))
theorem c_fitting_p {X : gv_X} {d : Nat} {G : gv_Sh} {A : Nat → Nat → Nat} {j : Nat → Nat → Int64} {cc : gv_Rs} {P : gv_O × gv_S → Prop} {t : Nat → Nat} {E : Nat} {R : Nat → Nat} (hp0 : oX11 G 0) (p0 : cQ A R) (p1 : tdI A t E) (hP : P (.inl (some (.int (nI (fitN R (tbF R) t E 1)))), (G, (mI A, j), cc))) : EvP X (d + 5) gvm_157 0 (gv_enter [.ref 0] 3) [] (G, (mI A, j), cc) P := by
  have n := (okW_n p0.1).1
  have ro : rO A 3 R := p0.2.1.1
  have e0 : A 3 0 = R 0 := ro.1
  have L : ∀ f k, k + f = R 0 → EvP X (d + 5) gvm_157 4 [some (.ref 0), some (.int (nI (bitN (fun p => decide (wrN R (tbF R) t E p ≤ 1)) k))), some (.int (nI k))] [] (G, (mI A, j), cc) P := by
    intro f
    induction f with
    | zero =>
      intro k hk
      obtain rfl : k = R 0 := by omega
      exact w157_4 (t := t) (E := E) (R := R) hp0 ⟨by omega, by omega, fun _ => hP, fun c => absurd c (by omega)⟩
    | succ f ih =>
      intro k hk
      have ih := ih (k + 1) (by omega)
      have hw : wrN R (tbF R) t E k ≤ E / 2 := cntN_le _ _
      have := p1.2.2.1
      rw [show bitN (fun p => decide (wrN R (tbF R) t E p ≤ 1)) (k + 1) = bitN (fun p => decide (wrN R (tbF R) t E p ≤ 1)) k ||| (if decide (wrN R (tbF R) t E k ≤ 1) = true then 2 ^ k else 0) from rfl] at ih
      refine w157_4 (t := t) (E := E) (R := R) hp0 ⟨by omega, by omega, fun c => absurd c (by omega), fun _ => ⟨p0, by omega, p1, by omega, fun c2 => ?_, fun c2 => ⟨by omega, ?_⟩⟩⟩
      · rw [if_neg (by rw [decide_eq_false (by omega)]; decide), Nat.or_zero] at ih; exact ih
      · rw [if_pos (decide_eq_true c2)] at ih; exact ih
  exact w157 hp0 (L (R 0) 0 (Nat.zero_add _))
theorem c_fitting {X : gv_X} {d : Nat} {G : gv_Sh} {A : Nat → Nat → Nat} {j : Nat → Nat → Int64} {cc : gv_Rs} {t : Nat → Nat} {E : Nat} {R : Nat → Nat} (hp0 : oX11 G 0) (p0 : cQ A R) (p1 : tdI A t E) : Ev X (d + 5) gvm_157 0 (gv_enter [.ref 0] 3) [] (G, (mI A, j), cc) (.inl (some (.int (nI (fitN R (tbF R) t E 1)))), (G, (mI A, j), cc)) := evp_det (c_fitting_p hp0 p0 p1 rfl)
theorem w158 {X : gv_X} {d : Nat} {G : gv_Sh} {A : Nat → Nat → Nat} {j : Nat → Nat → Int64} {cc : gv_Rs} {P : gv_O × gv_S → Prop} {t : Nat → Nat} {E : Nat} {R : Nat → Nat} (hp0 : oX11 G 0) (H : (cK A R) ∧ ((A 0 1 ≤ 400) ∧ ((∀ i, i < A 0 1 → A 1 i < 256 ∧ t i = sx8 (A 1 i)) ∧ ((∀ A1v1 : Nat → Nat → Nat, ((frT2 A A1v1 ∧ cK A1v1 R ∧ (tdB t (A 0 1) = true → cQ A1v1 R ∧ tdI A1v1 t (A 0 1)))) → (((tdB t (A 0 1) = true) → (cQ A1v1 R) ∧ ((tdI A1v1 t E) ∧ (P (.inl (some (.int (nI (fitN R (tbF R) t E 1)))), (G, (mI A1v1, j), cc))))) ∧ ((¬ (tdB t (A 0 1) = true)) → P (.inr 0, gv_ex (G, (mI A1v1, j), cc))))))))) : EvP X (d + 7) gvm_158 0 (gv_enter [.ref 0] 1) [] (G, (mI A, j), cc) P :=
  (pv_aload_n rfl rfl   (match (c_takeRows (t := t) (R := R) (A := A) (X := X) (d := d + 0) (G := G) (j := j) (cc := cc) hp0 H.1 H.2.1 H.2.2.1 ) with | ⟨A1v1, h1, e2x1⟩ => (Or.elim (Decidable.em (tdB t (A 0 1) = true)) (fun c2 => pv_virt rfl rfl rfl rfl rfl (oX11_k hp0) rfl rfl rfl (e2x1.1 c2) (pv_aload_n rfl rfl   (pv_virt rfl rfl rfl rfl rfl (oX11_k hp0) rfl rfl rfl (c_fitting (t := t) (E := E) (R := R) (A := A1v1) hp0 ((H.2.2.2 A1v1 h1).1 c2).1 ((H.2.2.2 A1v1 h1).1 c2).2.1 ) (pv_ireti rfl rfl ((H.2.2.2 A1v1 h1).1 c2).2.2)))) (fun c2 => pv_virtT rfl rfl rfl rfl rfl (oX11_k hp0) rfl rfl rfl rfl (e2x1.2 c2) ((H.2.2.2 A1v1 h1).2 c2)))))
theorem c_which_p {X : gv_X} {d : Nat} {G : gv_Sh} {A : Nat → Nat → Nat} {j : Nat → Nat → Int64} {cc : gv_Rs} {P : gv_O × gv_S → Prop} {t : Nat → Nat} {R : Nat → Nat} (hp0 : oX11 G 0) (p0 : cK A R) (p1 : A 0 1 ≤ 400) (p2 : ∀ i, i < A 0 1 → A 1 i < 256 ∧ t i = sx8 (A 1 i)) (hP : ∀ A1 : Nat → Nat → Nat, (cK A1 R) ∧ (frT2 A A1) → P (oc (fun _ => 0) (spWhich R t (A 0 1)).1 (spWhich R t (A 0 1)).2 (G, (mI A1, j), cc))) : EvP X (d + 7) gvm_158 0 (gv_enter [.ref 0] 1) [] (G, (mI A, j), cc) P := by
  have ok : ∀ B x, cK B R ∧ frT2 A B → spWhich R t (A 0 1) = (0, x) → P (.inl (some (.int (nI x))), (G, (mI B, j), cc)) := fun B x h1 h3 => by
    have := hP B h1
    rw [h3] at this
    exact this
  have no1 : ∀ B, cK B R ∧ frT2 A B → spWhich R t (A 0 1) = (1, 0) → P (.inr 0, gv_ex (G, (mI B, j), cc)) := fun B h1 h3 => by
    have := hP B h1
    rw [h3] at this
    exact this
  refine w158 (t := t) (E := A 0 1) (R := R) hp0 ⟨p0, p1, p2, fun B h => ⟨fun c => ?_, fun c => no1 B ⟨h.2.1, h.1⟩ (by unfold spWhich; rw [if_neg c])⟩⟩
  obtain ⟨q1, q2⟩ := h.2.2 c
  exact ⟨q1, q2, ok B _ ⟨h.2.1, h.1⟩ (by unfold spWhich; rw [if_pos c])⟩
theorem w159 {X : gv_X} {d : Nat} {G : gv_Sh} {A : Nat → Nat → Nat} {j : Nat → Nat → Int64} {cc : gv_Rs} {P : gv_O × gv_S → Prop} {t : Nat → Nat} {R : Nat → Nat} (hp0 : oX11 G 0) (H : (cK A R) ∧ ((A 0 1 ≤ 400) ∧ ((∀ i, i < A 0 1 → A 1 i < 256 ∧ t i = sx8 (A 1 i)) ∧ ((∀ A1v1 : Nat → Nat → Nat, ((frT2 A A1v1 ∧ cK A1v1 R ∧ (tdB t (A 0 1) = true → cQ A1v1 R ∧ tdI A1v1 t (A 0 1)))) → (((tdB t (A 0 1) = true) → EvP X (d + 7) gvm_159 4 [some (.ref 0), none, none, none, none] [] (G, (mI A1v1, j), cc) P) ∧ ((¬ (tdB t (A 0 1) = true)) → P (.inr 0, gv_ex (G, (mI A1v1, j), cc))))))))) : EvP X (d + 7) gvm_159 0 (gv_enter [.ref 0] 5) [] (G, (mI A, j), cc) P :=
  (pv_aload_n rfl rfl   (match (c_takeRows (t := t) (R := R) (A := A) (X := X) (d := d + 0) (G := G) (j := j) (cc := cc) hp0 H.1 H.2.1 H.2.2.1 ) with | ⟨A1v1, h1, e1x1⟩ => (Or.elim (Decidable.em (tdB t (A 0 1) = true)) (fun c2 => pv_virt rfl rfl rfl rfl rfl (oX11_k hp0) rfl rfl rfl (e1x1.1 c2) ((H.2.2.2 A1v1 h1).1 c2)) (fun c2 => pv_virtT rfl rfl rfl rfl rfl (oX11_k hp0) rfl rfl rfl rfl (e1x1.2 c2) ((H.2.2.2 A1v1 h1).2 c2)))))
theorem w159_4 {X : gv_X} {d : Nat} {G : gv_Sh} {A : Nat → Nat → Nat} {j : Nat → Nat → Int64} {cc : gv_Rs} {P : gv_O × gv_S → Prop}  (hp0 : oX11 G 0) (H : EvP X (d + 7) gvm_159 10 [some (.ref 0), some (.int (nI 4294967295)), some (.int (nI 2)), some (.int (nI 0)), none] [] (G, (mI A, j), cc) P) : EvP X (d + 7) gvm_159 4 [some (.ref 0), none, none, none, none] [] (G, (mI A, j), cc) P :=
  (pn_iconst (u := 4294967295) rfl (by decide)   (pv_istore_n rfl rfl   (pn_iconst rfl rfl   (pv_istore_n rfl rfl   (pn_iconst rfl rfl   (pv_istore_n rfl rfl   H))))))
theorem w159_10 {X : gv_X} {d : Nat} {G : gv_Sh} {A : Nat → Nat → Nat} {j : Nat → Nat → Int64} {cc : gv_Rs} {P : gv_O × gv_S → Prop} {l1 : Nat} {l2 : Nat} {l3 : Nat} {l4 : Option Value} {t : Nat → Nat} {E : Nat} {R : Nat → Nat} (hp0 : oX11 G 0) (H : (l3 < 2147483648) ∧ (((A 3 0) < 2147483648) ∧ ((((A 3 0) ≤ l3) → P (.inl (some (.int (nI l1))), (G, (mI A, j), cc))) ∧ ((l3 < (A 3 0)) → (cQ A R) ∧ ((l3 < R 0) ∧ ((tdI A t E) ∧ (((wrN R (tbF R) t E l3) < 2147483648) ∧ ((l2 < 2147483648) ∧ (((l2 ≤ (wrN R (tbF R) t E l3)) → EvP X (d + 7) gvm_159 10 [some (.ref 0), some (.int (nI l1)), some (.int (nI l2)), some (.int (nI (l3 + 1))), some (.int (nI (wrN R (tbF R) t E l3)))] [] (G, (mI A, j), cc) P) ∧ (((wrN R (tbF R) t E l3) < l2) → EvP X (d + 7) gvm_159 10 [some (.ref 0), some (.int (nI l3)), some (.int (nI (wrN R (tbF R) t E l3))), some (.int (nI (l3 + 1))), some (.int (nI (wrN R (tbF R) t E l3)))] [] (G, (mI A, j), cc) P)))))))))) : EvP X (d + 7) gvm_159 10 [some (.ref 0), some (.int (nI l1)), some (.int (nI l2)), some (.int (nI l3)), l4] [] (G, (mI A, j), cc) P :=
  (pv_iload_n rfl rfl   (pv_aload_n rfl rfl   (pv_getP rfl rfl (oX11_k hp0) (oX11_3 hp0)   (pv_getP rfl rfl (oX10_k (oX11_3c hp0)) (oX10_0 (oX11_3c hp0))   (pn_getI rfl rfl (oX6_k (oX10_0c (oX11_3c hp0))) rfl   (pn_ic_ge rfl H.1 H.2.1 (fun c1 => (pv_iload_n rfl rfl   (pv_ireti rfl rfl (H.2.2.1 c1)))) (fun c1 => (pv_aload_n rfl rfl   (pv_iload_n rfl rfl   (pv_virt rfl rfl rfl rfl rfl (oX11_k hp0) rfl rfl rfl (c_wrongRows (p := l3) (t := t) (E := E) (R := R) (A := A) hp0 (H.2.2.2 c1).1 (H.2.2.2 c1).2.1 (H.2.2.2 c1).2.2.1 ) (pv_istore rfl rfl   (pv_iload rfl rfl   (pv_iload_n rfl rfl   (pn_ic_ge rfl (H.2.2.2 c1).2.2.2.1 (H.2.2.2 c1).2.2.2.2.1 (fun c2 => (pn_iinc rfl rfl rfl rfl   (pv_goto rfl ((H.2.2.2 c1).2.2.2.2.2.1 c2)))) (fun c2 => (pv_iload rfl rfl   (pv_istore_n rfl rfl   (pv_iload_n rfl rfl   (pv_istore_n rfl rfl   (pn_iinc rfl rfl rfl rfl   (pv_goto rfl ((H.2.2.2 c1).2.2.2.2.2.2 c2))))))))))))))))))))))
/-- the best so far: fewest wrong rows, and which op -/
def lkF (R t : Nat → Nat) (E k : Nat) : Nat := if ¬ bitN (fun p => decide (wrN R (tbF R) t E p ≤ 0)) k = 0 then 0 else if ¬ bitN (fun p => decide (wrN R (tbF R) t E p ≤ 1)) k = 0 then 1 else 2
def lkB (R t : Nat → Nat) (E k : Nat) : Nat := if ¬ bitN (fun p => decide (wrN R (tbF R) t E p ≤ 0)) k = 0 then tzN (bitN (fun p => decide (wrN R (tbF R) t E p ≤ 0)) k) else if ¬ bitN (fun p => decide (wrN R (tbF R) t E p ≤ 1)) k = 0 then tzN (bitN (fun p => decide (wrN R (tbF R) t E p ≤ 1)) k) else 4294967295
