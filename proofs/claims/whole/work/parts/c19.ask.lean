/-! the class: proof, odds -/
theorem lg_S {A : Nat → Nat → Nat} {R S : Nat → Nat} (o : okW R) (h : lg A R) (e : eqS R S) : lg A S := ⟨okLw_of h.1 (e 2 (by omega)) (fun i hi => e i (by omega)), rRu_R h.2.1 (fun i hi => e i (by omega)), stT_S o h.2.2.1 e, smI_S o h.2.2.2 e⟩
/-- what figures are still to come -/
def fgN (t : Nat) : Nat → Nat → Nat → Nat
  | 0, _, _ => 0
  | r + 1, y, v => v * (y % t + 1) + fgN t r (y / t) (v * 10)
theorem fgN_pf {R : Nat → Nat} {m x : Nat} (hm : 1 ≤ m ∧ m ≤ 3) : fgN (R 0) m x 1 = pfF R m x := by
  rcases (show m = 1 ∨ m = 2 ∨ m = 3 by omega) with rfl | rfl | rfl
  · unfold pfF; rw [if_pos rfl]; simp only [fgN]; omega
  · unfold pfF; rw [if_neg (by decide), if_pos rfl]; simp only [fgN]; omega
  · unfold pfF; rw [if_neg (by decide), if_neg (by decide), Nat.pow_two, ← Nat.div_div_eq_div_mul]; simp only [fgN]; omega
theorem rW_pg {A B : Nat → Nat → Nat} {R : Nat → Nat} {m x : Nat} (h : rW A 17 R) (o : okW R) (hm : m ≤ 3) (f : ∀ q, q ≠ 17 → q ≠ 24 → B q = A q) (h2 : B 17 2 = m) (h3 : ∀ k, k ≠ 2 → B 17 k = A 17 k) (h4 : ∀ k, k < m → B 24 k = x / R 0 ^ (m - 1 - k) % R 0) : rW B 17 (pgR R m x) := by
  have n := okW_n o
  have e : ∀ i, i ≠ 3 → (i < 12 ∨ 15 ≤ i) → pgR R m x i = R i := fun i a b => pgN_o a (by omega)
  obtain ⟨a1, a2, a3, a4, a5, a6, a7⟩ := h
  refine ⟨rO_X (rO_fr a1 (fun a x y => f a (by omega) (by omega))) o (fun i hi => e i (by omega) (by omega)), ⟨h2, fun k hk => ?_⟩, fun k hk => ?_, ?_, rC_R (rC_of a5 (f _ (by omega) (by omega)) (f _ (by omega) (by omega))) (fun i hi => e _ (by omega) (by omega)), rC_R (rC_of a6 (f _ (by omega) (by omega)) (f _ (by omega) (by omega))) (fun i hi => e _ (by omega) (by omega)), rL_R (rL_of a7 (f _ (by omega) (by omega)) (f _ (by omega) (by omega))) n.2.2.2.2.2.2.2.2.2.2.2.1 (fun i hi => e i (by omega) (by omega))⟩
  · have hk : k < m := hk
    show B 24 k = if 12 + k = 3 then _ else if _ then _ else _
    rw [if_neg (by omega), if_pos (by omega), h4 k hk, show 12 + k - 12 = k by omega]
  · show B 25 k = _
    rw [f 25 (by omega) (by omega), e _ (by omega) (by omega)]; exact a3 k hk
  · obtain ⟨n1, n2, n3, n4, n5, n6, n7, n8⟩ := a4
    unfold rN
    rw [h3 4 (by omega), h3 5 (by omega), h3 6 (by omega), h3 7 (by omega), h3 8 (by omega), h3 9 (by omega), h3 10 (by omega), h3 11 (by omega), e 4 (by omega) (by omega), e 5 (by omega) (by omega), e 6 (by omega) (by omega), e 7 (by omega) (by omega), e 8 (by omega) (by omega), e 9 (by omega) (by omega), e 11 (by omega) (by omega), e 1 (by omega) (by omega)]
    exact ⟨n1, n2, n3, n4, n5, n6, n7, n8⟩
def pwL (b : Int64) : Nat → Int64
  | 0 => Int64.ofNat 1
  | t + 1 => pwL b t * b
theorem pwL_N (x : Nat) : ∀ t, pwL (lN x) t = lN (x ^ t)
  | 0 => rfl
  | t + 1 => by unfold pwL; rw [pwL_N x t, lN_mul, Nat.pow_succ]
def wyC (n : Nat) : Nat → Nat
  | 0 => 1
  | i + 1 => wyC n i * (n - i) / (i + 1)
def odS (a n k : Nat) : Nat → Nat
  | 0 => 0
  | i + 1 => odS a n k i + (if k ≤ i then wyC n i * a ^ i * (100 - a) ^ (n - i) else 0)
theorem od_eq : ∀ a, a < 101 → ∀ n, n < 6 → ∀ k, k < 6 → decide (odS a n k (n + 1) = suN (wyN a n) (6 - k) k) = true := by decide +kernel
theorem wyC_le : ∀ n, n < 6 → ∀ i, i < 6 → wyC n i * (n - i) < 1000 := by decide
theorem cmp_p : ∀ n, n < 6 → 0 < lg_cmp (lN (100 ^ n)) (Int64.ofNat 0) := by decide
theorem w149 {X : gv_X} {d : Nat} {G : gv_Sh} {A : Nat → Nat → Nat} {j : Nat → Nat → Int64} {cc : gv_Rs} {P : gv_O × gv_S → Prop} {m : Nat} {x : Nat} {t : Nat} (hp0 : oX11 G 0) (H : EvP X (d + 0) gvm_149 14 [some (.ref 0), some (.int (nI m)), some (.int (nI x)), some (.int (nI t)), some (.int (nI x)), some (.int (nI 0)), some (.int (nI 1)), some (.int (nI ((m + 4294967296 - 1) % 4294967296))), none] [] (G, (mI A, j), cc) P) : EvP X (d + 0) gvm_149 0 (gv_enter [.ref 0, .int (nI m), .int (nI x), .int (nI t)] 9) [] (G, (mI A, j), cc) P :=
  (pv_iload_n rfl rfl   (pv_istore rfl rfl   (pn_iconst rfl rfl   (pv_istore rfl rfl   (pn_iconst rfl rfl   (pv_istore rfl rfl   (pv_iload_n rfl rfl   (pn_iconst rfl rfl   (pn_isubw rfl (by decide)  (pv_istore rfl rfl   H))))))))))
theorem w149_14 {X : gv_X} {d : Nat} {G : gv_Sh} {A : Nat → Nat → Nat} {j : Nat → Nat → Int64} {cc : gv_Rs} {P : gv_O × gv_S → Prop} {m : Nat} {x : Nat} {t : Nat} {l4 : Nat} {l5 : Nat} {l6 : Nat} {l7 : Nat} {l8 : Option Value} (hp0 : oX11 G 0) (H : (l7 < 4294967296) ∧ (((2147483648 ≤ l7) → P (.inl (some (.int (nI l5))), (G, (mI (gu A 17 2 m), j), cc))) ∧ ((l7 < 2147483648) → (l7 < 2147483648) ∧ (((10 ≤ l7) → P (.inl (some (.int (nI l5))), (G, (mI (gu A 17 2 m), j), cc))) ∧ ((l7 < 10) → (t < 4294967296) ∧ (((t = 0 ∨ 2147483648 ≤ t) → P (.inl (some (.int (nI l5))), (G, (mI (gu A 17 2 m), j), cc))) ∧ ((0 < t ∧ t < 2147483648) → (l4 < 2147483648) ∧ ((0 < t) ∧ ((t < 2147483648) ∧ ((l4 < 2147483648) ∧ ((0 < t) ∧ ((t < 2147483648) ∧ ((l7 < 10) ∧ (EvP X (d + 0) gvm_149 14 [some (.ref 0), some (.int (nI m)), some (.int (nI x)), some (.int (nI t)), some (.int (nI (l4 / t))), some (.int (nI (l5 + (l6 * ((l4 % t) + 1))))), some (.int (nI (l6 * 10))), some (.int (nI ((l7 + 4294967296 - 1) % 4294967296))), some (.int (nI (l4 % t)))] [] (G, (mI (gu A 24 l7 (l4 % t)), j), cc) P)))))))))))))) : EvP X (d + 0) gvm_149 14 [some (.ref 0), some (.int (nI m)), some (.int (nI x)), some (.int (nI t)), some (.int (nI l4)), some (.int (nI l5)), some (.int (nI l6)), some (.int (nI l7)), l8] [] (G, (mI A, j), cc) P :=
  (pv_iload rfl rfl   (pn_if_lt rfl H.1 (fun c1 => (pv_aload_n rfl rfl   (pv_getP rfl rfl (oX11_k hp0) (oX11_4 hp0)   (pv_iload_n rfl rfl   (pn_putI rfl rfl (oX10_k (oX11_4c hp0))   (pv_iload rfl rfl   (pv_ireti rfl rfl (H.2.1 c1)))))))) (fun c1 => (pv_iload rfl rfl   (pn_bipush rfl rfl   (pn_ic_ge rfl (H.2.2 c1).1 (by decide) (fun c2 => (pv_aload_n rfl rfl   (pv_getP rfl rfl (oX11_k hp0) (oX11_4 hp0)   (pv_iload_n rfl rfl   (pn_putI rfl rfl (oX10_k (oX11_4c hp0))   (pv_iload rfl rfl   (pv_ireti rfl rfl ((H.2.2 c1).2.1 c2)))))))) (fun c2 => (pv_iload_n rfl rfl   (pn_if_le rfl ((H.2.2 c1).2.2 c2).1 (fun c3 => (pv_aload_n rfl rfl   (pv_getP rfl rfl (oX11_k hp0) (oX11_4 hp0)   (pv_iload_n rfl rfl   (pn_putI rfl rfl (oX10_k (oX11_4c hp0))   (pv_iload rfl rfl   (pv_ireti rfl rfl (((H.2.2 c1).2.2 c2).2.1 c3)))))))) (fun c3 => (pv_iload rfl rfl   (pv_iload_n rfl rfl   (pn_irem rfl (((H.2.2 c1).2.2 c2).2.2 c3).1 (((H.2.2 c1).2.2 c2).2.2 c3).2.1 (((H.2.2 c1).2.2 c2).2.2 c3).2.2.1  (pv_istore rfl rfl   (pv_iload rfl rfl   (pv_iload_n rfl rfl   (pn_idiv rfl (((H.2.2 c1).2.2 c2).2.2 c3).2.2.2.1 (((H.2.2 c1).2.2 c2).2.2 c3).2.2.2.2.1 (((H.2.2 c1).2.2 c2).2.2 c3).2.2.2.2.2.1  (pv_istore rfl rfl   (pv_aload_n rfl rfl   (pv_getP rfl rfl (oX11_k hp0) (oX11_4 hp0)   (pv_getP rfl rfl (oX10_k (oX11_4c hp0)) (oX10_1 (oX11_4c hp0))   (pv_iload rfl rfl   (pv_iload rfl rfl   (pn_iast rfl (oX10_1c (oX11_4c hp0)) (by decide) (((H.2.2 c1).2.2 c2).2.2 c3).2.2.2.2.2.2.1  (pv_iload rfl rfl   (pv_iload rfl rfl   (pv_iload rfl rfl   (pn_iconst rfl rfl   (pn_iadd rfl   (pn_imul rfl   (pn_iadd rfl   (pv_istore rfl rfl   (pv_iload rfl rfl   (pn_bipush rfl rfl   (pn_imul rfl   (pv_istore rfl rfl   (pn_idecw rfl (by decide) (by decide) rfl rfl (pv_goto rfl (((H.2.2 c1).2.2 c2).2.2 c3).2.2.2.2.2.2.2))))))))))))))))))))))))))))))))))))))
theorem c_makeProgram_p {X : gv_X} {d : Nat} {G : gv_Sh} {A : Nat → Nat → Nat} {j : Nat → Nat → Int64} {cc : gv_Rs} {P : gv_O × gv_S → Prop} {m : Nat} {x : Nat} {t : Nat} {R : Nat → Nat} (hp0 : oX11 G 0) (p0 : okW R) (p1 : rW A 17 R) (p2 : 1 ≤ m ∧ m ≤ 3) (p3 : t = R 0) (p4 : 0 < R 0) (p5 : x < 512) (hP : ∀ A1 : Nat → Nat → Nat, (rW A1 17 (pgR R m x)) ∧ (∀ q, q ≠ 17 → q ≠ 24 → A1 q = A q) → P (.inl (some (.int (nI (pfF R m x)))), (G, (mI A1, j), cc))) : EvP X (d + 0) gvm_149 0 (gv_enter [.ref 0, .int (nI m), .int (nI x), .int (nI t)] 9) [] (G, (mI A, j), cc) P := by
  have n := okW_n p0
  have Lp : ∀ r B y v s l8, r ≤ m → y = x / t ^ (m - r) → s + fgN t r y v = pfF R m x → (∀ q, q ≠ 24 → B q = A q) → (∀ k, r ≤ k → k < m → B 24 k = x / t ^ (m - 1 - k) % t) → EvP X (d + 0) gvm_149 14 [some (.ref 0), some (.int (nI m)), some (.int (nI x)), some (.int (nI t)), some (.int (nI y)), some (.int (nI s)), some (.int (nI v)), some (.int (nI ((r + 4294967296 - 1) % 4294967296))), l8] [] (G, (mI B, j), cc) P := by
    intro r
    induction r with
    | zero =>
      intro B y v s l8 hr hy hs hB hk
      refine w149_14 hp0 ⟨by omega, fun c1 => qn (hP _ ⟨rW_pg p1 p0 p2.2 (fun q a b => ?_) (gu_hit _ _ _ _) (fun k a => ?_) (fun k a => ?_), fun q a b => ?_⟩) hs.symm, fun c1 => absurd c1 (by omega)⟩
      · rw [gu_row a]; exact hB q b
      · rw [gu_k a rfl, hB 17 (by decide)]
      · rw [gu_row (by decide), hk k (by omega) a, p3]
      · rw [gu_row a]; exact hB q b
    | succ r ih =>
      intro B y v s l8 hr hy hs hB hk
      have e7 : (r + 1 + 4294967296 - 1) % 4294967296 = r := by omega
      have yl : y ≤ x := by rw [hy]; exact Nat.div_le_self _ _
      rw [e7]
      have hs : s + (v * (y % t + 1) + fgN t r (y / t) (v * 10)) = pfF R m x := hs
      refine w149_14 hp0 ⟨by omega, fun c1 => absurd c1 (by omega), fun c1 => ⟨by omega, fun c2 => absurd c2 (by omega), fun c2 => ⟨by omega, fun c3 => absurd c3 (by omega), fun c3 => ⟨by omega, by omega, by omega, by omega, by omega, by omega, by omega, ih _ _ _ _ _ (by omega) ?_ (by omega) (fun q a => ?_) (fun k a b => ?_)⟩⟩⟩⟩
      · rw [hy, Nat.div_div_eq_div_mul, ← Nat.pow_succ, show (m - (r + 1)).succ = m - r by omega]
      · rw [gu_row a]; exact hB q a
      · by_cases z : k = r
        · subst z; rw [gu_hit, hy, show m - 1 - k = m - (k + 1) by omega]
        · rw [gu_k z rfl]; exact hk k (by omega) b
  exact w149 hp0 (Lp m A x 1 0 none (Nat.le_refl _) (by rw [Nat.sub_self, Nat.pow_zero, Nat.div_one]) (by rw [p3, Nat.zero_add]; exact fgN_pf p2) (fun _ _ => rfl) (fun k a b => absurd a (by omega)))
theorem c_makeProgram {X : gv_X} {d : Nat} {G : gv_Sh} {A : Nat → Nat → Nat} {j : Nat → Nat → Int64} {cc : gv_Rs} {m : Nat} {x : Nat} {t : Nat} {R : Nat → Nat} (hp0 : oX11 G 0) (p0 : okW R) (p1 : rW A 17 R) (p2 : 1 ≤ m ∧ m ≤ 3) (p3 : t = R 0) (p4 : 0 < R 0) (p5 : x < 512) : ∃ A1 : Nat → Nat → Nat, Ev X (d + 0) gvm_149 0 (gv_enter [.ref 0, .int (nI m), .int (nI x), .int (nI t)] 9) [] (G, (mI A, j), cc) (.inl (some (.int (nI (pfF R m x)))), (G, (mI A1, j), cc)) ∧ (rW A1 17 (pgR R m x)) ∧ (∀ q, q ≠ 17 → q ≠ 24 → A1 q = A q) := by
  obtain ⟨_, h, A1, rfl, hp⟩ := c_makeProgram_p (X := X) (d := d) (G := G) (A := A) (j := j) (cc := cc) (m := m) (x := x) (t := t) (R := R) (P := fun r => ∃ A1 : Nat → Nat → Nat, r = (.inl (some (.int (nI (pfF R m x)))), (G, (mI A1, j), cc)) ∧ (rW A1 17 (pgR R m x)) ∧ (∀ q, q ≠ 17 → q ≠ 24 → A1 q = A q)) hp0 p0 p1 p2 p3 p4 p5 (fun A1 h => ⟨A1, rfl, h⟩)
  exact ⟨A1, h, hp⟩
theorem w148 {X : gv_X} {d : Nat} {G : gv_Sh} {A : Nat → Nat → Nat} {j : Nat → Nat → Int64} {cc : gv_Rs} {P : gv_O × gv_S → Prop} {R : Nat → Nat} (hp0 : oX11 G 0) (H : (cK A R) ∧ ((∀ A1v1 : Nat → Nat → Nat, ((cQ A1v1 R) ∧ (rW A1v1 17 R) ∧ (frK A A1v1)) → EvP X (d + 7) gvm_148 19 [some (.ref 0), some (.int (nI (A1v1 3 0))), some (.int (nI 1)), some (.int (nI 1)), none, none] [] (G, (mI A1v1, j), cc) P))) : EvP X (d + 7) gvm_148 0 (gv_enter [.ref 0] 6) [] (G, (mI A, j), cc) P :=
  (pv_aload_n rfl rfl   (match (c_makeSpare (R := R) (A := A) (X := X) (d := d + 0) (G := G) (j := j) (cc := cc) hp0 H.1 ) with | ⟨A1v1, e1x1, h1⟩ => pv_virt rfl rfl rfl rfl rfl (oX11_k hp0) rfl rfl rfl e1x1 (pv_aload_n rfl rfl   (pv_getP rfl rfl (oX11_k hp0) (oX11_3 hp0)   (pv_getP rfl rfl (oX10_k (oX11_3c hp0)) (oX10_0 (oX11_3c hp0))   (pn_getI rfl rfl (oX6_k (oX10_0c (oX11_3c hp0))) rfl   (pv_istore_n rfl rfl   (pn_iconst rfl rfl   (pv_istore_n rfl rfl   (pn_iconst rfl rfl   (pv_istore_n rfl rfl   (H.2 A1v1 h1))))))))))))
theorem w148_19 {X : gv_X} {d : Nat} {G : gv_Sh} {A : Nat → Nat → Nat} {j : Nat → Nat → Int64} {cc : gv_Rs} {P : gv_O × gv_S → Prop} {l1 : Nat} {l2 : Nat} {l3 : Nat} {l4 : Option Value} {l5 : Option Value} (hp0 : oX11 G 0) (H : (l3 < 2147483648) ∧ (((3 < l3) → P (.inl (some (.int (nI 4294967295))), (G, (mI A, j), cc))) ∧ ((l3 ≤ 3) → EvP X (d + 7) gvm_148 31 [some (.ref 0), some (.int (nI l1)), some (.int (nI (l2 * l1))), some (.int (nI l3)), some (.int (nI 0)), l5] [] (G, (mI A, j), cc) P))) : EvP X (d + 7) gvm_148 19 [some (.ref 0), some (.int (nI l1)), some (.int (nI l2)), some (.int (nI l3)), l4, l5] [] (G, (mI A, j), cc) P :=
  (pv_iload_n rfl rfl   (pn_iconst rfl rfl   (pn_ic_gt rfl H.1 (by decide) (fun c1 => (pn_iconst (u := 4294967295) rfl (by decide)   (pv_ireti rfl rfl (H.2.1 c1)))) (fun c1 => (pv_iload_n rfl rfl   (pv_iload_n rfl rfl   (pn_imul rfl   (pv_istore_n rfl rfl   (pn_iconst rfl rfl   (pv_istore rfl rfl   (H.2.2 c1)))))))))))
theorem w148_31 {X : gv_X} {d : Nat} {G : gv_Sh} {A : Nat → Nat → Nat} {j : Nat → Nat → Int64} {cc : gv_Rs} {P : gv_O × gv_S → Prop} {l1 : Nat} {l2 : Nat} {l3 : Nat} {l4 : Nat} {l5 : Option Value} {U : Nat → Nat} (hp0 : oX11 G 0) (H : (l4 < 2147483648) ∧ ((l2 < 2147483648) ∧ (((l2 ≤ l4) → EvP X (d + 7) gvm_148 19 [some (.ref 0), some (.int (nI l1)), some (.int (nI l2)), some (.int (nI (l3 + 1))), some (.int (nI l4)), l5] [] (G, (mI A, j), cc) P) ∧ ((l4 < l2) → (okW U) ∧ ((rW A 17 U) ∧ ((1 ≤ l3 ∧ l3 ≤ 3) ∧ ((l1 = U 0) ∧ ((0 < U 0) ∧ ((l4 < 512) ∧ ((∀ A1v1 : Nat → Nat → Nat, ((rW A1v1 17 (pgR U l3 l4)) ∧ (∀ q, q ≠ 17 → q ≠ 24 → A1v1 q = A q)) → (okW (pgR U l3 l4)) ∧ ((rW A1v1 17 (pgR U l3 l4)) ∧ ((lg A1v1 (pgR U l3 l4)) ∧ ((17 + 15 ≤ 47) ∧ ((∀ A1v2 : Nat → Nat → Nat, ((lg A1v2 (pgR U l3 l4)) ∧ (frW A1v1 A1v2 17) ∧ (∃ S, okW S ∧ eqG (pgR U l3 l4) S ∧ rW A1v2 17 S)) → ((lkN (tbF (pgR U l3 l4)) 60 1 (boR (pgR U l3 l4))) < 4294967296) ∧ ((((lkN (tbF (pgR U l3 l4)) 60 1 (boR (pgR U l3 l4))) = 4294967295) → EvP X (d + 7) gvm_148 31 [some (.ref 0), some (.int (nI l1)), some (.int (nI l2)), some (.int (nI l3)), some (.int (nI (l4 + 1))), some (.int (nI (pfF U l3 l4)))] [] (G, (mI A1v2, j), cc) P) ∧ ((¬ (lkN (tbF (pgR U l3 l4)) 60 1 (boR (pgR U l3 l4))) = 4294967295) → P (.inl (some (.int (nI ((1000 * l3) + (pfF U l3 l4))))), (G, (mI A1v2, j), cc)))))))))))))))))))) : EvP X (d + 7) gvm_148 31 [some (.ref 0), some (.int (nI l1)), some (.int (nI l2)), some (.int (nI l3)), some (.int (nI l4)), l5] [] (G, (mI A, j), cc) P :=
  (pv_iload rfl rfl   (pv_iload_n rfl rfl   (pn_ic_ge rfl H.1 H.2.1 (fun c1 => (pn_iinc rfl rfl rfl rfl   (pv_goto rfl (H.2.2.1 c1)))) (fun c1 => (pv_aload_n rfl rfl   (pv_iload_n rfl rfl   (pv_iload rfl rfl   (pv_iload_n rfl rfl   (match (c_makeProgram (m := l3) (x := l4) (t := l1) (R := U) (A := A) (X := X) (d := d + 6) (G := G) (j := j) (cc := cc) hp0 (H.2.2.2 c1).1 (H.2.2.2 c1).2.1 (H.2.2.2 c1).2.2.1 (H.2.2.2 c1).2.2.2.1 (H.2.2.2 c1).2.2.2.2.1 (H.2.2.2 c1).2.2.2.2.2.1 ) with | ⟨A1v1, e2x42, h2⟩ => pv_virt rfl rfl rfl rfl rfl (oX11_k hp0) rfl rfl rfl e2x42 (pv_istore rfl rfl   (pv_aload_n rfl rfl   (pv_getP rfl rfl (oX11_k hp0) (oX11_4 hp0)   (pv_aload_n rfl rfl   (pv_getP rfl rfl (oX11_k hp0) (oX11_7 hp0)   (match (c_firstLeak (R := (pgR U l3 l4)) (A := A1v1) (X := X) (d := d + 1) (G := G) (j := j) (cc := cc) (oX11_4c hp0) (oX11_7c hp0) ((H.2.2.2 c1).2.2.2.2.2.2 A1v1 h2).1 ((H.2.2.2 c1).2.2.2.2.2.2 A1v1 h2).2.1 ((H.2.2.2 c1).2.2.2.2.2.2 A1v1 h2).2.2.1 ((H.2.2.2 c1).2.2.2.2.2.2 A1v1 h2).2.2.2.1 ) with | ⟨A1v2, e2x55, h3⟩ => pv_virt rfl rfl rfl rfl rfl (oX10_k (oX11_4c hp0)) rfl rfl rfl e2x55 (pn_iconst (u := 4294967295) rfl (by decide)   (pn_ic_eq rfl (((H.2.2.2 c1).2.2.2.2.2.2 A1v1 h2).2.2.2.2 A1v2 h3).1 (by decide) (fun c4 => (pn_iinc rfl rfl rfl rfl   (pv_goto rfl ((((H.2.2.2 c1).2.2.2.2.2.2 A1v1 h2).2.2.2.2 A1v2 h3).2.1 c4)))) (fun c4 => (pn_sipush rfl rfl   (pv_iload_n rfl rfl   (pn_imul rfl   (pv_iload rfl rfl   (pn_iadd rfl   (pv_ireti rfl rfl ((((H.2.2.2 c1).2.2.2.2.2.2 A1v1 h2).2.2.2.2 A1v2 h3).2.2 c4)))))))))))))))))))))))))
theorem c_proof_p {X : gv_X} {d : Nat} {G : gv_Sh} {A : Nat → Nat → Nat} {j : Nat → Nat → Int64} {cc : gv_Rs} {P : gv_O × gv_S → Prop} {R : Nat → Nat} (hp0 : oX11 G 0) (p0 : cK A R) (hP : ∀ A1 : Nat → Nat → Nat, (cK A1 R) ∧ (frK A A1) → P (.inl (some (.int (nI (spProof R (tbF R))))), (G, (mI A1, j), cc))) : EvP X (d + 7) gvm_148 0 (gv_enter [.ref 0] 6) [] (G, (mI A, j), cc) P := by
  have n := okW_n p0.1
  have Li : ∀ m, 1 ≤ m → m ≤ 3 → (pfM R (tbF R) m = 4294967295 ∨ R 0 = 0 → ∀ B S l4 l5, cQ B R → frK A B → pfI R m S → rW B 17 S → EvP X (d + 7) gvm_148 19 [some (.ref 0), some (.int (nI (R 0))), some (.int (nI (R 0 ^ m))), some (.int (nI (m + 1))), some (.int (nI l4)), l5] [] (G, (mI B, j), cc) P) → (pfM R (tbF R) m ≠ 4294967295 → 0 < R 0 → spProof R (tbF R) = pfM R (tbF R) m) → ∀ i k B S l5, k + i = R 0 ^ m → cQ B R → frK A B → pfI R m S → rW B 17 S → lstN (pfB R (tbF R) m) i k = lstN (pfB R (tbF R) m) (R 0 ^ m) 0 → EvP X (d + 7) gvm_148 31 [some (.ref 0), some (.int (nI (R 0))), some (.int (nI (R 0 ^ m))), some (.int (nI m)), some (.int (nI k)), l5] [] (G, (mI B, j), cc) P := by
    intro m m1 m3 hn hf1 i
    have pm := pow_m n.1 m3
    induction i with
    | zero =>
      intro k B S l5 hk hQ hf hI hW hl
      have hl : k = lstN (pfB R (tbF R) m) (R 0 ^ m) 0 := hl
      refine w148_31 (U := S) hp0 ⟨by omega, by omega, fun c1 => hn (Or.inl ?_) B S k l5 hQ hf hI hW, fun c1 => absurd c1 (by omega)⟩
      unfold pfM; rw [if_pos (by omega)]
    | succ i ih =>
      intro k B S l5 hk hQ hf hI hW hl
      have r0 : 0 < R 0 := by
        rcases Nat.eq_zero_or_pos (R 0) with z | z
        · rw [z, Nat.zero_pow (by omega)] at hk; omega
        · exact z
      have s0 : S 0 = R 0 := hI.2 0 (by omega) (by omega) (by omega)
      have oP := okW_pg hI.1 (x := k) m3 (by omega)
      have eS : eqS R (pgR S m k) := fun i hi => (pgN_o (by omega) (by omega)).trans (hI.2 i (by omega) (by omega) (by omega))
      have eS2 : eqS (pgR S m k) R := fun i hi => (eS i hi).symm
      have eF : pfF S m k = pfF R m k := by unfold pfF; rw [s0]
      have eb := pfI_pg (x := k) hI m3
      have eL : lkN (tbF (pgR S m k)) 60 1 (boR (pgR S m k)) = lkN (tbF R) 60 1 (boR (pgR R m k)) := by
        rw [← eb]
        exact lkN_T (okW_bo oP) (fun p hp => by
          rw [boR_o (by omega), eS 0 (by omega)] at hp
          exact tbF_S p0.1 eS (by omega))
      have ls : lstN (pfB R (tbF R) m) (i + 1) k = if pfB R (tbF R) m k = true then k else lstN (pfB R (tbF R) m) i (k + 1) := rfl
      have lt := lkN_lt (T := tbF R) (i := 60) (n := 1) (R := boR (pgR R m k))
      refine w148_31 (U := S) hp0 ⟨by omega, by omega, fun c1 => absurd c1 (by omega), fun c1 => ⟨hI.1, hW, ⟨m1, m3⟩, s0.symm, by omega, by omega, fun C h1 => ?_⟩⟩
      have q1 := cQ_w hQ (lg_of hQ.2.2.2 (fun q hq => h1.2 q (by omega) (by omega))) (fun q a b => h1.2 q (by omega) (by omega))
      refine ⟨oP, h1.1, lg_S p0.1 q1.1.2.2.2 eS, by decide, fun D h2 => ?_⟩
      obtain ⟨S', oS', gS', rS'⟩ := h2.2.2
      have q2 := cQ_w q1.1 (lg_S oP h2.1 eS2) h2.2.1
      have hf' := frK_tr hf (frK_tr q1.2 q2.2)
      rw [eL, eF]
      refine ⟨by omega, fun c3 => ?_, fun c3 => ?_⟩
      · refine ih (k + 1) D S' _ (by omega) q2.1 hf' (pfI_s hI oS' gS') rS' ?_
        rw [← hl, ls, if_neg (by unfold pfB; rw [decide_eq_true c3]; decide)]
      · have pt : pfB R (tbF R) m k = true := by unfold pfB; rw [decide_eq_false c3]; rfl
        rw [ls, if_pos pt] at hl
        have em : pfM R (tbF R) m = 1000 * m + pfF R m k := by
          unfold pfM; rw [← hl, if_neg (by omega)]
        have fl := pfF_lt n.1 r0 m k
        exact qn (hP D ⟨cQ_K q2.1, hf'⟩) ((hf1 (by omega) r0).trans em)
  have L4 : (pfM R (tbF R) 1 = 4294967295 ∨ R 0 = 0) → (pfM R (tbF R) 2 = 4294967295 ∨ R 0 = 0) → (pfM R (tbF R) 3 = 4294967295 ∨ R 0 = 0) → ∀ B (l4 : Nat) l5, cQ B R → frK A B → EvP X (d + 7) gvm_148 19 [some (.ref 0), some (.int (nI (R 0))), some (.int (nI (R 0 ^ 3))), some (.int (nI 4)), some (.int (nI l4)), l5] [] (G, (mI B, j), cc) P := by
    intro h1 h2 h3 B l4 l5 hQ hf
    refine w148_19 hp0 ⟨by omega, fun c1 => qn (hP B ⟨cQ_K hQ, hf⟩) ?_, fun c1 => absurd c1 (by omega)⟩
    unfold spProof
    by_cases z : R 0 = 0
    · rw [if_pos z]
    · rw [if_neg z, if_pos (by omega), if_pos (by omega)]; omega
  have st : ∀ m B l4 l5, m ≤ 2 → (∀ l5, EvP X (d + 7) gvm_148 31 [some (.ref 0), some (.int (nI (R 0))), some (.int (nI (R 0 ^ (m + 1)))), some (.int (nI (m + 1))), some (.int (nI 0)), l5] [] (G, (mI B, j), cc) P) → EvP X (d + 7) gvm_148 19 [some (.ref 0), some (.int (nI (R 0))), some (.int (nI (R 0 ^ m))), some (.int (nI (m + 1))), l4, l5] [] (G, (mI B, j), cc) P := by
    intro m B l4 l5 hm h
    refine w148_19 hp0 ⟨by omega, fun c1 => absurd c1 (by omega), fun c1 => ?_⟩
    have := h l5
    rw [Nat.pow_succ] at this
    exact this
  refine w148 (R := R) hp0 ⟨p0, fun B h1 => ?_⟩
  have e0 : B 3 0 = R 0 := h1.1.2.1.1.1
  rw [e0]
  have I0 : pfI R 1 R := ⟨p0.1, fun i a b c => rfl⟩
  have := st 0 B none none (by omega) (fun l5 => Li 1 (by omega) (by omega) (fun n1 B S l4 l5 hQ hf hI hW => st 1 B _ l5 (by omega) (fun l5 => Li 2 (by omega) (by omega) (fun n2 B S l4 l5 hQ hf hI hW => st 2 B _ l5 (by omega) (fun l5 => Li 3 (by omega) (by omega) (fun n3 B S l4 l5 hQ hf hI hW => L4 n1 n2 n3 B l4 l5 hQ hf) ?_ (R 0 ^ 3) 0 B S l5 (Nat.zero_add _) hQ hf (pfI_up hI (by omega)) hW rfl)) ?_ (R 0 ^ 2) 0 B S l5 (Nat.zero_add _) hQ hf (pfI_up hI (by omega)) hW rfl)) ?_ (R 0 ^ 1) 0 B R l5 (Nat.zero_add _) h1.1 h1.2.2 I0 h1.2.1 rfl)
  · exact this
  · intro a b; unfold spProof; rw [if_neg (by omega), if_pos (by omega), if_pos (by omega)]
  · intro a b; unfold spProof; rw [if_neg (by omega), if_pos (by omega), if_neg a]
  · intro a b; unfold spProof; rw [if_neg (by omega), if_neg a]
theorem c_proof {X : gv_X} {d : Nat} {G : gv_Sh} {A : Nat → Nat → Nat} {j : Nat → Nat → Int64} {cc : gv_Rs} {R : Nat → Nat} (hp0 : oX11 G 0) (p0 : cK A R) : ∃ A1 : Nat → Nat → Nat, Ev X (d + 7) gvm_148 0 (gv_enter [.ref 0] 6) [] (G, (mI A, j), cc) (.inl (some (.int (nI (spProof R (tbF R))))), (G, (mI A1, j), cc)) ∧ (cK A1 R) ∧ (frK A A1) := by
  obtain ⟨_, h, A1, rfl, hp⟩ := c_proof_p (X := X) (d := d) (G := G) (A := A) (j := j) (cc := cc) (R := R) (P := fun r => ∃ A1 : Nat → Nat → Nat, r = (.inl (some (.int (nI (spProof R (tbF R))))), (G, (mI A1, j), cc)) ∧ (cK A1 R) ∧ (frK A A1)) hp0 p0 (fun A1 h => ⟨A1, rfl, h⟩)
  exact ⟨A1, h, hp⟩
theorem w177 {X : gv_X} {d : Nat} {G : gv_Sh} {A : Nat → Nat → Nat} {j : Nat → Nat → Int64} {cc : gv_Rs} {P : gv_O × gv_S → Prop} {b : Int64} {t : Nat} (hp0 : oX11 G 0) (H : EvP X (d + 0) gvm_177 6 [some (.ref 0), some (.long b), none, some (.int (nI t)), some (.long (Int64.ofNat 1)), none, some (.int (nI 0))] [] (G, (mI A, j), cc) P) : EvP X (d + 0) gvm_177 0 (gv_enter [.ref 0, .long b, .int (nI t)] 7) [] (G, (mI A, j), cc) P :=
  (pv_lconst rfl   (pv_lstore rfl rfl   (pn_iconst rfl rfl   (pv_istore rfl rfl   H))))
theorem w177_6 {X : gv_X} {d : Nat} {G : gv_Sh} {A : Nat → Nat → Nat} {j : Nat → Nat → Int64} {cc : gv_Rs} {P : gv_O × gv_S → Prop} {b : Int64} {t : Nat} {l4 : Int64} {l6 : Nat} (hp0 : oX11 G 0) (H : (l6 < 2147483648) ∧ ((t < 2147483648) ∧ (((t ≤ l6) → P (.inl (some (.long l4)), (G, (mI A, j), cc))) ∧ ((l6 < t) → (l6 < 2147483648) ∧ (((5 ≤ l6) → P (.inl (some (.long l4)), (G, (mI A, j), cc))) ∧ ((l6 < 5) → EvP X (d + 0) gvm_177 6 [some (.ref 0), some (.long b), none, some (.int (nI t)), some (.long (l4 * b)), none, some (.int (nI (l6 + 1)))] [] (G, (mI A, j), cc) P)))))) : EvP X (d + 0) gvm_177 6 [some (.ref 0), some (.long b), none, some (.int (nI t)), some (.long l4), none, some (.int (nI l6))] [] (G, (mI A, j), cc) P :=
  (pv_iload rfl rfl   (pv_iload_n rfl rfl   (pn_ic_ge rfl H.1 H.2.1 (fun c1 => (pv_lload rfl rfl   (pv_lret rfl (H.2.2.1 c1)))) (fun c1 => (pv_iload rfl rfl   (pn_iconst rfl rfl   (pn_ic_ge rfl (H.2.2.2 c1).1 (by decide) (fun c2 => (pv_lload rfl rfl   (pv_lret rfl ((H.2.2.2 c1).2.1 c2)))) (fun c2 => (pv_lload rfl rfl   (pv_lload_n rfl rfl   (pv_lmul rfl   (pv_lstore rfl rfl   (pn_iinc rfl rfl rfl rfl   (pv_goto rfl ((H.2.2.2 c1).2.2 c2)))))))))))))))
theorem c_power_p {X : gv_X} {d : Nat} {G : gv_Sh} {A : Nat → Nat → Nat} {j : Nat → Nat → Int64} {cc : gv_Rs} {P : gv_O × gv_S → Prop} {b : Int64} {t : Nat} (hp0 : oX11 G 0) (p0 : t ≤ 5) (hP : P (.inl (some (.long (pwL b t))), (G, (mI A, j), cc))) : EvP X (d + 0) gvm_177 0 (gv_enter [.ref 0, .long b, .int (nI t)] 7) [] (G, (mI A, j), cc) P := by
  have Lp : ∀ i k, k + i = t → EvP X (d + 0) gvm_177 6 [some (.ref 0), some (.long b), none, some (.int (nI t)), some (.long (pwL b k)), none, some (.int (nI k))] [] (G, (mI A, j), cc) P := by
    intro i
    induction i with
    | zero =>
      intro k hk
      obtain rfl : k = t := by omega
      exact w177_6 hp0 ⟨by omega, by omega, fun c1 => hP, fun c1 => absurd c1 (by omega)⟩
    | succ i ih =>
      intro k hk
      exact w177_6 hp0 ⟨by omega, by omega, fun c1 => absurd c1 (by omega), fun c1 => ⟨by omega, fun c2 => absurd c2 (by omega), fun c2 => ih (k + 1) (by omega)⟩⟩
  exact w177 hp0 (Lp t 0 (Nat.zero_add _))
theorem c_power {X : gv_X} {d : Nat} {G : gv_Sh} {A : Nat → Nat → Nat} {j : Nat → Nat → Int64} {cc : gv_Rs} {b : Int64} {t : Nat} (hp0 : oX11 G 0) (p0 : t ≤ 5) : Ev X (d + 0) gvm_177 0 (gv_enter [.ref 0, .long b, .int (nI t)] 7) [] (G, (mI A, j), cc) (.inl (some (.long (pwL b t))), (G, (mI A, j), cc)) := evp_det (c_power_p hp0 p0 rfl)
theorem w176 {X : gv_X} {d : Nat} {G : gv_Sh} {A : Nat → Nat → Nat} {j : Nat → Nat → Int64} {cc : gv_Rs} {P : gv_O × gv_S → Prop} {n : Nat} {k : Nat} (hp0 : oX11 G 0) (H : (n < 4294967296) ∧ ((((0 ≤ n ∧ n ≤ 5)) → (k < 4294967296) ∧ ((((0 ≤ k ∧ k ≤ 5)) → EvP X (d + 1) gvm_176 22 [some (.ref 0), some (.int (nI n)), some (.int (nI k)), some (.long (Int64.ofNat 1)), none, some (.long (Int64.ofNat 0)), none, some (.int (nI 0)), none] [] (G, (mI A, j), cc) P) ∧ ((¬ (0 ≤ k ∧ k ≤ 5)) → P (.inr 0, gv_ex (G, (mI A, j), cc))))) ∧ ((¬ (0 ≤ n ∧ n ≤ 5)) → P (.inr 0, gv_ex (G, (mI A, j), cc))))) : EvP X (d + 1) gvm_176 0 (gv_enter [.ref 0, .int (nI n), .int (nI k)] 9) [] (G, (mI A, j), cc) P :=
  (pv_aload_n rfl rfl   (pv_iload_n rfl rfl   (pn_iconst rfl rfl   (pn_iconst rfl rfl   (Or.elim (Decidable.em ((0 ≤ n ∧ n ≤ 5))) (fun c1 => pv_virt rfl rfl rfl rfl rfl (oX11_k hp0) rfl rfl rfl (c_needNumber (n := n) (lo := 0) (hi := 5) (A := A) hp0 H.1 (by decide) (by decide) c1) (pv_aload_n rfl rfl   (pv_iload_n rfl rfl   (pn_iconst rfl rfl   (pn_iconst rfl rfl   (Or.elim (Decidable.em ((0 ≤ k ∧ k ≤ 5))) (fun c2 => pv_virt rfl rfl rfl rfl rfl (oX11_k hp0) rfl rfl rfl (c_needNumber (n := k) (lo := 0) (hi := 5) (A := A) hp0 (H.2.1 c1).1 (by decide) (by decide) c2) (pv_lconst rfl   (pv_lstore_n rfl rfl   (pv_lconst rfl   (pv_lstore rfl rfl   (pn_iconst rfl rfl   (pv_istore rfl rfl   ((H.2.1 c1).2.1 c2)))))))) (fun c2 => pv_virtT rfl rfl rfl rfl rfl (oX11_k hp0) rfl rfl rfl rfl (c_needNumber_x (n := k) (lo := 0) (hi := 5) (A := A) hp0 (H.2.1 c1).1 (by decide) (by decide) c2) ((H.2.1 c1).2.2 c2)))))))) (fun c1 => pv_virtT rfl rfl rfl rfl rfl (oX11_k hp0) rfl rfl rfl rfl (c_needNumber_x (n := n) (lo := 0) (hi := 5) (A := A) hp0 H.1 (by decide) (by decide) c1) (H.2.2 c1)))))))
theorem w176_22 {X : gv_X} {d : Nat} {G : gv_Sh} {A : Nat → Nat → Nat} {j : Nat → Nat → Int64} {cc : gv_Rs} {P : gv_O × gv_S → Prop} {n : Nat} {k : Nat} {l3 : Int64} {l5 : Int64} {l7 : Nat} (hp0 : oX11 G 0) (H : (l7 < 2147483648) ∧ ((n < 2147483648) ∧ (((n < l7) → (n ≤ 5) ∧ (((0 < (lg_cmp (pwL (Int64.ofNat 100) n) (Int64.ofNat 0))) → (¬ (pwL (Int64.ofNat 100) n) = 0) ∧ (P (.inl (some (.int (Int64.toInt32 (((Int64.ofNat 10000) * l5) / (pwL (Int64.ofNat 100) n))))), (G, (mI A, j), cc)))) ∧ ((¬ 0 < (lg_cmp (pwL (Int64.ofNat 100) n) (Int64.ofNat 0))) → P (.inl (some (.int (nI 0))), (G, (mI A, j), cc))))) ∧ ((l7 ≤ n) → (l7 < 2147483648) ∧ ((k < 2147483648) ∧ (((l7 < k) → (l7 ≤ n) ∧ ((¬ (Int32.toInt64 (nI (l7 + 1))) = 0) ∧ (EvP X (d + 1) gvm_176 22 [some (.ref 0), some (.int (nI n)), some (.int (nI k)), some (.long ((l3 * (Int32.toInt64 (nI (n - l7)))) / (Int32.toInt64 (nI (l7 + 1))))), none, some (.long l5), none, some (.int (nI (l7 + 1))), none] [] (G, (mI A, j), cc) P))) ∧ ((k ≤ l7) → (l7 ≤ 5) ∧ (((A 2 7) ≤ 100) ∧ ((l7 ≤ n) ∧ (((n - l7) ≤ 5) ∧ ((l7 ≤ n) ∧ ((¬ (Int32.toInt64 (nI (l7 + 1))) = 0) ∧ (EvP X (d + 1) gvm_176 22 [some (.ref 0), some (.int (nI n)), some (.int (nI k)), some (.long ((l3 * (Int32.toInt64 (nI (n - l7)))) / (Int32.toInt64 (nI (l7 + 1))))), none, some (.long (l5 + ((l3 * (pwL (Int32.toInt64 (nI (A 2 7))) l7)) * (pwL (Int32.toInt64 (nI (100 - (A 2 7)))) (n - l7))))), none, some (.int (nI (l7 + 1))), none] [] (G, (mI A, j), cc) P))))))))))))) : EvP X (d + 1) gvm_176 22 [some (.ref 0), some (.int (nI n)), some (.int (nI k)), some (.long l3), none, some (.long l5), none, some (.int (nI l7)), none] [] (G, (mI A, j), cc) P :=
  (pv_iload rfl rfl   (pv_iload_n rfl rfl   (pn_ic_gt rfl H.1 H.2.1 (fun c1 => (pv_aload_n rfl rfl   (pv_ldc2 rfl   (pv_iload_n rfl rfl   (pv_virt rfl rfl rfl rfl rfl (oX11_k hp0) rfl rfl rfl (c_power (b := (Int64.ofNat 100)) (t := n) (A := A) hp0 (H.2.2.1 c1).1 ) (pv_lstore rfl rfl   (pv_lload rfl rfl   (pv_lconst rfl   (pv_lcmp rfl   (pv_if_gt rfl  (fun c2 => (pv_ldc2 rfl   (pv_lload rfl rfl   (pv_lmul rfl   (pv_lload rfl rfl   (pv_ldiv rfl ((H.2.2.1 c1).2.1 c2).1 (pv_l2i rfl   (pv_ireti rfl rfl ((H.2.2.1 c1).2.1 c2).2)))))))) (fun c2 => (pn_iconst rfl rfl   (pv_goto rfl (pv_ireti rfl rfl ((H.2.2.1 c1).2.2 c2))))))))))))))) (fun c1 => (pv_iload rfl rfl   (pv_iload_n rfl rfl   (pn_ic_lt rfl (H.2.2.2 c1).1 (H.2.2.2 c1).2.1 (fun c3 => (pv_lload_n rfl rfl   (pv_iload_n rfl rfl   (pv_iload rfl rfl   (pn_isub rfl ((H.2.2.2 c1).2.2.1 c3).1  (pv_i2l rfl   (pv_lmul rfl   (pv_iload rfl rfl   (pn_iconst rfl rfl   (pn_iadd rfl   (pv_i2l rfl   (pv_ldiv rfl ((H.2.2.2 c1).2.2.1 c3).2.1 (pv_lstore_n rfl rfl   (pn_iinc rfl rfl rfl rfl   (pv_goto rfl ((H.2.2.2 c1).2.2.1 c3).2.2))))))))))))))) (fun c3 => (pv_lload rfl rfl   (pv_lload_n rfl rfl   (pv_aload_n rfl rfl   (pv_aload_n rfl rfl   (pv_getP rfl rfl (oX11_k hp0) (oX11_3 hp0)   (pn_getI rfl rfl (oX10_k (oX11_3c hp0)) rfl   (pv_i2l rfl   (pv_iload rfl rfl   (pv_virt rfl rfl rfl rfl rfl (oX11_k hp0) rfl rfl rfl (c_power (b := (Int32.toInt64 (nI (A 2 7)))) (t := l7) (A := A) hp0 ((H.2.2.2 c1).2.2.2 c3).1 ) (pv_lmul rfl   (pv_aload_n rfl rfl   (pn_bipush rfl rfl   (pv_aload_n rfl rfl   (pv_getP rfl rfl (oX11_k hp0) (oX11_3 hp0)   (pn_getI rfl rfl (oX10_k (oX11_3c hp0)) rfl   (pn_isub rfl ((H.2.2.2 c1).2.2.2 c3).2.1  (pv_i2l rfl   (pv_iload_n rfl rfl   (pv_iload rfl rfl   (pn_isub rfl ((H.2.2.2 c1).2.2.2 c3).2.2.1  (pv_virt rfl rfl rfl rfl rfl (oX11_k hp0) rfl rfl rfl (c_power (b := (Int32.toInt64 (nI (100 - (A 2 7))))) (t := (n - l7)) (A := A) hp0 ((H.2.2.2 c1).2.2.2 c3).2.2.2.1 ) (pv_lmul rfl   (pv_ladd rfl   (pv_lstore rfl rfl   (pv_lload_n rfl rfl   (pv_iload_n rfl rfl   (pv_iload rfl rfl   (pn_isub rfl ((H.2.2.2 c1).2.2.2 c3).2.2.2.2.1  (pv_i2l rfl   (pv_lmul rfl   (pv_iload rfl rfl   (pn_iconst rfl rfl   (pn_iadd rfl   (pv_i2l rfl   (pv_ldiv rfl ((H.2.2.2 c1).2.2.2 c3).2.2.2.2.2.1 (pv_lstore_n rfl rfl   (pn_iinc rfl rfl rfl rfl   (pv_goto rfl ((H.2.2.2 c1).2.2.2 c3).2.2.2.2.2.2))))))))))))))))))))))))))))))))))))))))))))))
theorem c_odds_p {X : gv_X} {d : Nat} {G : gv_Sh} {A : Nat → Nat → Nat} {j : Nat → Nat → Int64} {cc : gv_Rs} {P : gv_O × gv_S → Prop} {n : Nat} {k : Nat} {R : Nat → Nat} (hp0 : oX11 G 0) (p0 : cK A R) (p1 : n < 4294967296) (p2 : k < 4294967296) (hP : ∀ A1 : Nat → Nat → Nat, (cK A1 R) ∧ (frK A A1) → P (oc (fun _ => 0) (spOdds R n k).1 (spOdds R n k).2 (G, (mI A1, j), cc))) : EvP X (d + 1) gvm_176 0 (gv_enter [.ref 0, .int (nI n), .int (nI k)] 9) [] (G, (mI A, j), cc) P := by
  have ok : ∀ B x, cK B R ∧ frK A B → spOdds R n k = (0, x) → P (.inl (some (.int (nI x))), (G, (mI B, j), cc)) := fun B x h1 h3 => by
    have := hP B h1
    rw [h3] at this
    exact this
  have no1 : ∀ B, cK B R ∧ frK A B → spOdds R n k = (1, 0) → P (.inr 0, gv_ex (G, (mI B, j), cc)) := fun B h1 h3 => by
    have := hP B h1
    rw [h3] at this
    exact this
  have hn := okW_n p0.1
  have e7 : A 2 7 = R 7 := p0.2.1.2.2.2.1.2.2.2.1
  have K : cK A R ∧ frK A A := ⟨p0, frK_rf A⟩
  have Lp : n ≤ 5 → k ≤ 5 → ∀ i m, m + i = n + 1 → EvP X (d + 1) gvm_176 22 [some (.ref 0), some (.int (nI n)), some (.int (nI k)), some (.long (lN (wyC n m))), none, some (.long (lN (odS (R 7) n k m))), none, some (.int (nI m)), none] [] (G, (mI A, j), cc) P := by
    intro h5 hk i
    have hle := of_decide_eq_true (wy_le (R 7) (by omega) n (by omega) k (by omega))
    have hoe := of_decide_eq_true (od_eq (R 7) (by omega) n (by omega) k (by omega))
    have hp : 0 < 100 ^ n := Nat.pow_pos (by decide)
    have hp2 : 100 ^ n ≤ 100 ^ 5 := Nat.pow_le_pow_right (by decide) h5
    have e100 : pwL (Int64.ofNat 100) n = lN (100 ^ n) := pwL_N 100 n
    induction i with
    | zero =>
      intro m hm
      obtain rfl : m = n + 1 := by omega
      have h := w176_22 (X := X) (d := d) (G := G) (A := A) (j := j) (cc := cc) (P := P) (n := n) (k := k) (l3 := lN (wyC n (n + 1))) (l5 := lN (odS (R 7) n k (n + 1))) (l7 := n + 1) hp0
      rw [e100] at h
      refine h ⟨by omega, by omega, fun c1 => ⟨h5, fun c2 => ⟨lN_ne (by omega) hp, ?_⟩, fun c2 => absurd (cmp_p n (by omega)) c2⟩, fun c1 => absurd c1 (by omega)⟩
      rw [hoe, show Int64.ofNat 10000 = lN 10000 from rfl, lN_mul, lN_div (by omega) (by omega) hp, show Int64.toInt32 (lN (10000 * suN (wyN (R 7) n) (6 - k) k / 100 ^ n)) = nI (10000 * suN (wyN (R 7) n) (6 - k) k / 100 ^ n) from Int64.toInt32_ofNat']
      exact ok A _ K (by unfold spOdds; rw [if_neg (by omega)])
    | succ i ih =>
      intro m hm
      have wl := wyC_le n (by omega) m (by omega)
      have ih := ih (m + 1) (by omega)
      have h := w176_22 (X := X) (d := d) (G := G) (A := A) (j := j) (cc := cc) (P := P) (n := n) (k := k) (l3 := lN (wyC n m)) (l5 := lN (odS (R 7) n k m)) (l7 := m) hp0
      rw [e7, nI_l (show m + 1 < 2147483648 by omega), nI_l (show n - m < 2147483648 by omega), nI_l (show R 7 < 2147483648 by omega), nI_l (show 100 - R 7 < 2147483648 by omega), pwL_N, pwL_N, lN_mul, lN_mul, lN_mul, lN_add, lN_div (by omega) (by omega) (by omega)] at h
      rw [show wyC n (m + 1) = wyC n m * (n - m) / (m + 1) from rfl, show odS (R 7) n k (m + 1) = odS (R 7) n k m + (if k ≤ m then wyC n m * R 7 ^ m * (100 - R 7) ^ (n - m) else 0) from rfl] at ih
      have ne := lN_ne (b := m + 1) (by omega) (by omega)
      refine h ⟨by omega, by omega, fun c1 => absurd c1 (by omega), fun c1 => ⟨by omega, by omega, fun c2 => ⟨by omega, ne, ?_⟩, fun c2 => ⟨by omega, by omega, by omega, by omega, by omega, ne, ?_⟩⟩⟩
      · rw [if_neg (by omega), Nat.add_zero] at ih; exact ih
      · rw [if_pos c2] at ih; exact ih
  exact w176 hp0 ⟨p1, fun c1 => ⟨p2, fun c2 => Lp c1.2 c2.2 (n + 1) 0 (Nat.zero_add _), fun c2 => no1 A K (by unfold spOdds; rw [if_pos (by omega)])⟩, fun c1 => no1 A K (by unfold spOdds; rw [if_pos (by omega)])⟩
