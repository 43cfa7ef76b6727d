theorem okLw_of {R S : Nat → Nat} (h : okLw R) (e2 : S 2 = R 2) (e : ∀ i, 368 ≤ i → S i = R i) : okLw S := by
  intro h2
  rw [e2] at h2
  obtain ⟨a, b⟩ := h h2
  rw [e 368 (by omega)]
  refine ⟨a, fun n hn => ?_⟩
  have hb := b n hn
  unfold okLn at hb ⊢
  have eC : ∀ i, S (417 + 2 * i) = R (417 + 2 * i) := fun i => e _ (by omega)
  have eD : ∀ i, S (417 + 2 * i + 1) = R (417 + 2 * i + 1) := fun i => e _ (by omega)
  simp only [e (369 + 4 * n) (by omega), e (369 + 4 * n + 1) (by omega), e (369 + 4 * n + 2) (by omega), e (369 + 4 * n + 3) (by omega), eC, eD]
  exact hb
/-! beside; programs that show a leak -/
theorem pow_le8 {n : Nat} (h : n ≤ 8) : 2 ^ n ≤ 256 := Nat.pow_le_pow_right (by decide) h
theorem bcN_lt (x : Nat) : bcN x ≤ 8 := by unfold bcN; omega
/-- the program of a number, from place c on -/
def pgN (R : Nat → Nat) (m x c : Nat) : Nat → Nat := fun i => if i = 3 then m else if 12 + c ≤ i ∧ i < 12 + m then x / R 0 ^ (m - 1 - (i - 12)) % R 0 else R i
def pgR (R : Nat → Nat) (m x : Nat) : Nat → Nat := pgN R m x 0
theorem pgN_o {R : Nat → Nat} {m x c i : Nat} (h : i ≠ 3) (h2 : i < 12 ∨ 12 + m ≤ i) : pgN R m x c i = R i := by
  unfold pgN
  rw [if_neg h, if_neg (by omega)]
theorem pgN_s {A : Nat → Nat → Nat} {R : Nat → Nat} {m x c v : Nat} (hc : c < m) (hv : v = x / R 0 ^ (m - 1 - c) % R 0) : gu (gw A 264 (pgN R m x (c + 1))) 264 (12 + c) v = gw A 264 (pgN R m x c) := by
  rw [gu_gwr]
  congr 1
  funext i
  unfold pgN
  by_cases h : i = 12 + c
  · rw [if_pos h, if_neg (by omega), if_pos (by omega), hv, h, Nat.add_sub_cancel_left]
  · rw [if_neg h]
    by_cases h3 : i = 3
    · rw [if_pos h3, if_pos h3]
    · rw [if_neg h3, if_neg h3]
      by_cases h2 : 12 + (c + 1) ≤ i ∧ i < 12 + m
      · rw [if_pos h2, if_pos (by omega)]
      · rw [if_neg h2, if_neg (by omega)]
theorem okW_pg {R : Nat → Nat} (h : okW R) {m x : Nat} (hm : m ≤ 3) (h0 : 0 < R 0) : okW (pgR R m x) := by
  have hn := okW_n h
  have hd : ∀ y, y % R 0 < R 0 := fun y => Nat.mod_lt y h0
  have e : ∀ i, i ≠ 3 → (i < 12 ∨ 22 ≤ i) → pgR R m x i = R i := fun i a b => pgN_o a (by omega)
  have e3 : pgR R m x 3 = m := by unfold pgR pgN; rw [if_pos rfl]
  have ep : ∀ k, k < m → pgR R m x (12 + k) < R 0 := fun k hk => by
    unfold pgR pgN
    rw [if_neg (by omega), if_pos (by omega)]
    exact hd _
  obtain ⟨h1, h2, h3, h4, h5, h6, h7, h8⟩ := h
  refine ⟨?_, fun k hk => ?_, fun k hk => ?_, fun k hk => ?_, fun p hp => ?_, fun p hp => ?_, fun g hg => ?_, fun k hk => ?_⟩
  · rw [e 0 (by decide) (by omega), e 1 (by decide) (by omega), e 2 (by decide) (by omega), e3, e 4 (by decide) (by omega), e 5 (by decide) (by omega), e 6 (by decide) (by omega), e 7 (by decide) (by omega), e 8 (by decide) (by omega), e 9 (by decide) (by omega), e 10 (by decide) (by omega), e 11 (by decide) (by omega)]
    omega
  · by_cases hkm : k < m
    · have := ep k hkm; omega
    · rw [show pgR R m x (12 + k) = R (12 + k) from pgN_o (by omega) (by omega)]; exact h2 k hk
  · rw [e3] at hk
    rw [e 0 (by decide) (by omega)]
    exact ep k hk
  · rw [e _ (by omega) (by omega)]; exact h4 k hk
  · rw [show (fun i => pgR R m x (30 + 9 * p + i)) = fun i => R (30 + 9 * p + i) from funext (fun i => e _ (by omega) (by omega))]; exact h5 p hp
  · rw [e 0 (by decide) (by omega)] at hp
    rw [e _ (by omega) (by omega)]; exact h6 p hp
  · rw [show (fun i => pgR R m x (102 + 13 * g + i)) = fun i => R (102 + 13 * g + i) from funext (fun i => e _ (by omega) (by omega))]; exact h7 g hg
  · rw [e _ (by omega) (by omega)]; exact h8 k hk
theorem okLw_pg {R : Nat → Nat} (h : okLw R) {m x : Nat} (hm : m ≤ 3) : okLw (pgR R m x) := by
  refine okLw_of (R := R) (S := pgR R m x) h (pgN_o (by decide) (by omega)) (fun i hi => pgN_o (by omega) (by omega))
/-- whether the program of a number leaks -/
def pfB (R T : Nat → Nat) (m x : Nat) : Bool := !decide (lkN T 60 1 (boR (pgR R m x)) = 4294967295)
def pfF (R : Nat → Nat) (m x : Nat) : Nat := if m = 1 then x % R 0 + 1 else if m = 2 then 10 * (x / R 0 % R 0 + 1) + (x % R 0 + 1) else 100 * (x / R 0 ^ 2 % R 0 + 1) + (10 * (x / R 0 % R 0 + 1) + (x % R 0 + 1))
/-- the first that shows it, of programs that long -/
def pfM (R T : Nat → Nat) (m : Nat) : Nat := if lstN (pfB R T m) (R 0 ^ m) 0 = R 0 ^ m then 4294967295 else 1000 * m + pfF R m (lstN (pfB R T m) (R 0 ^ m) 0)
def spProof (R T : Nat → Nat) : Nat := if R 0 = 0 then 4294967295 else if pfM R T 1 = 4294967295 then (if pfM R T 2 = 4294967295 then pfM R T 3 else pfM R T 2) else pfM R T 1
theorem r_beside_p {X : gv_X} {d : Nat} {G : gv_Sh} {A : Nat → Nat → Nat} {j : Nat → Nat → Int64} {cc : gv_Rs} {P : gv_O × gv_S → Prop}  (hp263 : oX12 G 263) (p0 : okW (A 264)) (hP : P (.inl (some (.int (nI (besN (A 264) (2 ^ (A 264 0) - 1))))), (G, (mI (gu A 263 0 0), j), cc))) : EvP X (d + 6) gvm_317 0 (gv_enter [.ref 263] 3) [] (G, (mI A, j), cc) P := by
  have hn := okW_n p0
  have hpw := pow_le8 hn.1
  have hp0 : 0 < 2 ^ A 264 0 := Nat.two_pow_pos _
  have L : ∀ i s, i + (s + 1) = 2 ^ A 264 0 → EvP X (d + 6) gvm_317 9 [some (.ref 263), some (.int (nI (besN (A 264) s))), some (.int (nI (s + 1)))] [] (G, (mI (gu A 263 0 0), j), cc) P := by
    intro i
    induction i with
    | zero =>
      intro s hs
      refine w317_9 hp263 (show gu A 263 0 0 264 = A 264 from rfl) ⟨by omega, by omega, by omega, fun c1 => ?_, fun c1 => by omega⟩
      exact qn hP (by rw [show 2 ^ A 264 0 - 1 = s by omega])
    | succ i ih =>
      intro s hs
      have hb := besN_le (A 264) s
      have h1 := bcN_lt (s + 1)
      have h2 := bcN_lt (besN (A 264) s)
      have i1 := ih (s + 1) (by omega)
      refine w317_9 hp263 (show gu A 263 0 0 264 = A 264 from rfl) ⟨by omega, by omega, by omega, fun c1 => by omega, fun c1 => ⟨by omega, by omega, by omega, by omega, fun c2 => ?_, fun c2 => ⟨p0, by omega, fun c3 => ?_, fun c3 => ?_⟩⟩⟩
      · rw [show besN (A 264) (s + 1) = besN (A 264) s from if_neg (fun h => by omega)] at i1
        exact i1
      · rw [show besN (A 264) (s + 1) = besN (A 264) s from if_neg (fun h => by rw [h.2] at c3; cases c3)] at i1
        exact i1
      · rw [show besN (A 264) (s + 1) = s + 1 from if_pos ⟨by omega, c3⟩] at i1
        exact i1
  exact w317 hp263 rfl (L (2 ^ A 264 0 - 1) 0 (by omega))
theorem r_beside {X : gv_X} {d : Nat} {G : gv_Sh} {A : Nat → Nat → Nat} {j : Nat → Nat → Int64} {cc : gv_Rs}  (hp263 : oX12 G 263) (p0 : okW (A 264)) : Ev X (d + 6) gvm_317 0 (gv_enter [.ref 263] 3) [] (G, (mI A, j), cc) (.inl (some (.int (nI (besN (A 264) (2 ^ (A 264 0) - 1))))), (G, (mI (gu A 263 0 0), j), cc)) := evp_det (r_beside_p hp263 p0 rfl)
theorem w311 {X : gv_X} {d : Nat} {G : gv_Sh} {A : Nat → Nat → Nat} {j : Nat → Nat → Int64} {cc : gv_Rs} {P : gv_O × gv_S → Prop} {many : Nat} {number : Nat} {R : Nat → Nat} (hp263 : oX12 G 263) (hR : A 264 = R) (H : (1 ≤ many) ∧ (EvP X (d + 8) gvm_311 14 [some (.ref 263), some (.int (nI many)), some (.int (nI number)), some (.int (nI number)), some (.int (nI (many - 1)))] [] (G, (mI (gu A 264 3 many), j), cc) P)) : EvP X (d + 8) gvm_311 0 (gv_enter [.ref 263, .int (nI many), .int (nI number)] 5) [] (G, (mI A, j), cc) P :=
  by
  subst hR
  exact (pv_iload_n rfl rfl   (pv_istore_n rfl rfl   (pv_aload_n rfl rfl   (pv_getP rfl rfl (oX12_k hp263) (oX12_1 hp263)   (pn_iconst rfl rfl   (pv_iload_n rfl rfl   (pn_iast rfl (oX12_1c hp263) (by decide) (by decide)  (pv_iload_n rfl rfl   (pn_iconst rfl rfl   (pn_isub rfl H.1  (pv_istore rfl rfl   H.2)))))))))))
theorem w311_14 {X : gv_X} {d : Nat} {G : gv_Sh} {A : Nat → Nat → Nat} {j : Nat → Nat → Int64} {cc : gv_Rs} {P : gv_O × gv_S → Prop} {many : Nat} {number : Nat} {R : Nat → Nat} {l3 : Nat} {l4 : Nat} (hp263 : oX12 G 263) (hR : A 264 = R) (H : (l4 < 4294967296) ∧ (((2147483648 ≤ l4) → (okW R) ∧ ((okLw R) ∧ ((∀ p, p < 8 → A 273 p < 16) ∧ ((∀ A11 : Nat → Nat → Nat, ((okW (A11 264)) ∧ (eqG R (A11 264)) ∧ (frG A A11)) → ((lkN (A 273) 60 1 (boR R)) < 4294967296) ∧ ((((lkN (A 273) 60 1 (boR R)) = 4294967295) → P (.inl (some (.int (nI 0))), (G, (mI A11, j), cc))) ∧ ((¬ (lkN (A 273) 60 1 (boR R)) = 4294967295) → P (.inl (some (.int (nI 1))), (G, (mI A11, j), cc))))))))) ∧ ((l4 < 2147483648) → (l3 < 2147483648) ∧ ((0 < (R 0)) ∧ (((R 0) < 2147483648) ∧ (((12 + l4) < 2066) ∧ ((l3 < 2147483648) ∧ ((0 < ((gu A 264 (12 + l4) (l3 % (R 0))) 264 0)) ∧ ((((gu A 264 (12 + l4) (l3 % (R 0))) 264 0) < 2147483648) ∧ (EvP X (d + 8) gvm_311 14 [some (.ref 263), some (.int (nI many)), some (.int (nI number)), some (.int (nI (l3 / ((gu A 264 (12 + l4) (l3 % (R 0))) 264 0)))), some (.int (nI ((l4 + 4294967296 - 1) % 4294967296)))] [] (G, (mI (gu A 264 (12 + l4) (l3 % (R 0))), j), cc) P)))))))))) : EvP X (d + 8) gvm_311 14 [some (.ref 263), some (.int (nI many)), some (.int (nI number)), some (.int (nI l3)), some (.int (nI l4))] [] (G, (mI A, j), cc) P :=
  by
  subst hR
  exact (pv_iload rfl rfl   (pn_if_lt rfl H.1 (fun c1 => (pv_aload_n rfl rfl   (match (r_leaksAt (A := A) (X := X) (d := d + 0) (G := G) (j := j) (cc := cc) hp263 (H.2.1 c1).1 (H.2.1 c1).2.1 (H.2.1 c1).2.2.1 ) with | ⟨A11, e1x49, h2⟩ => pv_virt rfl rfl rfl rfl rfl (oX12_k hp263) rfl rfl rfl e1x49 (pn_iconst rfl (by decide)   (pn_ic_eq rfl ((H.2.1 c1).2.2.2 A11 h2).1 (by decide) (fun c3 => (pn_iconst rfl rfl   (pv_iretz rfl rfl (Or.inl rfl) (((H.2.1 c1).2.2.2 A11 h2).2.1 c3)))) (fun c3 => (pn_iconst rfl rfl   (pv_goto rfl (pv_iretz rfl rfl (Or.inr rfl) (((H.2.1 c1).2.2.2 A11 h2).2.2 c3)))))))))) (fun c1 => (pv_aload_n rfl rfl   (pv_getP rfl rfl (oX12_k hp263) (oX12_1 hp263)   (pn_bipush rfl rfl   (pv_iload rfl rfl   (pn_iadd rfl   (pv_iload_n rfl rfl   (pv_aload_n rfl rfl   (pv_virt rfl rfl rfl rfl rfl (oX12_k hp263) rfl rfl rfl (r_ops (A := A) hp263 ) (pn_irem rfl (H.2.2 c1).1 (H.2.2 c1).2.1 (H.2.2 c1).2.2.1  (pn_iast rfl (oX12_1c hp263) (by decide) (H.2.2 c1).2.2.2.1  (pv_iload_n rfl rfl   (pv_aload_n rfl rfl   (pv_virt rfl rfl rfl rfl rfl (oX12_k hp263) rfl rfl rfl (r_ops (A := (gu A 264 (12 + l4) (l3 % (A 264 0)))) hp263 ) (pn_idiv rfl (H.2.2 c1).2.2.2.2.1 (H.2.2 c1).2.2.2.2.2.1 (H.2.2 c1).2.2.2.2.2.2.1  (pv_istore_n rfl rfl   (pn_idecw rfl (by decide) (by decide) rfl rfl (pv_goto rfl (H.2.2 c1).2.2.2.2.2.2.2))))))))))))))))))))
theorem r_isProof_p {X : gv_X} {d : Nat} {G : gv_Sh} {A : Nat → Nat → Nat} {j : Nat → Nat → Int64} {cc : gv_Rs} {P : gv_O × gv_S → Prop} {many : Nat} {number : Nat} (hp263 : oX12 G 263) (p0 : okW (A 264)) (p1 : okLw (A 264)) (p2 : ∀ p, p < 8 → A 273 p < 16) (p3 : 1 ≤ many ∧ many ≤ 3) (p4 : 0 < A 264 0) (p5 : number < 512) (hP : ∀ A1 : Nat → Nat → Nat, (okW (A1 264)) ∧ (eqG (pgR (A 264) many number) (A1 264)) ∧ (frG A A1) → P (.inl (some (.int (zo (!decide (lkN (A 273) 60 1 (boR (pgR (A 264) many number)) = 4294967295))))), (G, (mI A1, j), cc))) : EvP X (d + 8) gvm_311 0 (gv_enter [.ref 263, .int (nI many), .int (nI number)] 5) [] (G, (mI A, j), cc) P := by
  have hn := okW_n p0
  have L0 : ∀ l3, EvP X (d + 8) gvm_311 14 [some (.ref 263), some (.int (nI many)), some (.int (nI number)), some (.int (nI l3)), some (.int (nI 4294967295))] [] (G, (mI (gw A 264 (pgN (A 264) many number 0)), j), cc) P := by
    intro l3
    have e3 : (gw A 264 (pgN (A 264) many number 0)) 273 = A 273 := gw_row (by decide)
    refine w311_14 hp263 (gw_at _ _ _) ⟨by decide, fun c1 => ⟨okW_pg p0 p3.2 p4, okLw_pg p1 p3.2, by rw [e3]; exact p2, fun B hB => ?_⟩, fun c1 => absurd c1 (by decide)⟩
    obtain ⟨b1, b2, b3⟩ := hB
    have hl := lkN_lt (T := A 273) (i := 60) (n := 1) (R := boR (pgR (A 264) many number))
    rw [e3]
    refine ⟨by show lkN (A 273) 60 1 (boR (pgR (A 264) many number)) < _; omega, fun c3 => ?_, fun c3 => ?_⟩
    · refine qz0 (hP B ⟨b1, b2, frG_tr (frG_gw _ _) b3⟩) ?_
      rw [decide_eq_true (show lkN (A 273) 60 1 (boR (pgR (A 264) many number)) = 4294967295 from c3)]; rfl
    · refine qz1 (hP B ⟨b1, b2, frG_tr (frG_gw _ _) b3⟩) ?_
      rw [decide_eq_false (show ¬ lkN (A 273) 60 1 (boR (pgR (A 264) many number)) = 4294967295 from c3)]; rfl
  have Ls : ∀ c, c + 1 ≤ many → EvP X (d + 8) gvm_311 14 [some (.ref 263), some (.int (nI many)), some (.int (nI number)), some (.int (nI (number / A 264 0 ^ (many - 1 - c)))), some (.int (nI c))] [] (G, (mI (gw A 264 (pgN (A 264) many number (c + 1))), j), cc) P := by
    intro c
    induction c with
    | zero =>
      intro hc
      have hd : number / A 264 0 ^ (many - 1 - 0) ≤ number := Nat.div_le_self _ _
      have r0 : pgN (A 264) many number (0 + 1) 0 = A 264 0 := pgN_o (by decide) (by omega)
      have g0 : ∀ v, gu (gw A 264 (pgN (A 264) many number (0 + 1))) 264 (12 + 0) v 264 0 = A 264 0 := fun v => by rw [gu_k (by decide) rfl, gw_at, r0]
      refine w311_14 hp263 (gw_at _ _ _)  ⟨by (first | omega | (rw [g0]; omega)), ⟨fun c1 => ⟨by (first | omega | (rw [g0]; omega)), ⟨by (first | omega | (rw [g0]; omega)), ⟨by (first | omega | (rw [g0]; omega)), (fun A11 h2 => ⟨by (first | omega | (rw [g0]; omega)), ⟨fun c3 => ?_, fun c3 => ?_⟩⟩)⟩⟩⟩, fun c1 => ⟨by (first | omega | (rw [g0]; omega)), ⟨by (first | omega | (rw [g0]; omega)), ⟨by (first | omega | (rw [g0]; omega)), ⟨by (first | omega | (rw [g0]; omega)), ⟨by (first | omega | (rw [g0]; omega)), ⟨by (first | omega | (rw [g0]; omega)), ⟨by (first | omega | (rw [g0]; omega)), ?_⟩⟩⟩⟩⟩⟩⟩⟩⟩
      · omega
      · omega
      · rw [r0]
        exact evm (pgN_s (by omega) rfl) (L0 _)
    | succ c ih =>
      intro hc
      have hd : number / A 264 0 ^ (many - 1 - (c + 1)) ≤ number := Nat.div_le_self _ _
      have r0 : pgN (A 264) many number (c + 1 + 1) 0 = A 264 0 := pgN_o (by decide) (by omega)
      have g0 : ∀ v, gu (gw A 264 (pgN (A 264) many number (c + 1 + 1))) 264 (12 + (c + 1)) v 264 0 = A 264 0 := fun v => by rw [gu_k (by omega) rfl, gw_at, r0]
      refine w311_14 hp263 (gw_at _ _ _)  ⟨by (first | omega | (rw [g0]; omega)), ⟨fun c1 => ⟨by (first | omega | (rw [g0]; omega)), ⟨by (first | omega | (rw [g0]; omega)), ⟨by (first | omega | (rw [g0]; omega)), (fun A11 h2 => ⟨by (first | omega | (rw [g0]; omega)), ⟨fun c3 => ?_, fun c3 => ?_⟩⟩)⟩⟩⟩, fun c1 => ⟨by (first | omega | (rw [g0]; omega)), ⟨by (first | omega | (rw [g0]; omega)), ⟨by (first | omega | (rw [g0]; omega)), ⟨by (first | omega | (rw [g0]; omega)), ⟨by (first | omega | (rw [g0]; omega)), ⟨by (first | omega | (rw [g0]; omega)), ⟨by (first | omega | (rw [g0]; omega)), ?_⟩⟩⟩⟩⟩⟩⟩⟩⟩
      · omega
      · omega
      · have i1 := ih (by omega)
        rw [g0, r0, Nat.div_div_eq_div_mul, ← Nat.pow_succ, show (c + 1 + 4294967296 - 1) % 4294967296 = c by omega, show (many - 1 - (c + 1)).succ = many - 1 - c by omega]
        exact evm (pgN_s (by omega) rfl) i1
  have e0 : gu A 264 3 many = (gw A 264 (pgN (A 264) many number (many - 1 + 1))) := by
    rw [gu_gw]
    congr 1
    funext i
    unfold pgN
    by_cases h : i = 3
    · rw [if_pos h, if_pos h]
    · rw [if_neg h, if_neg h, if_neg (by omega)]
  have h0 := Ls (many - 1) (by omega)
  rw [show many - 1 - (many - 1) = 0 by omega, Nat.pow_zero, Nat.div_one] at h0
  refine w311 hp263 rfl ⟨by omega, evm e0 h0⟩
theorem r_isProof {X : gv_X} {d : Nat} {G : gv_Sh} {A : Nat → Nat → Nat} {j : Nat → Nat → Int64} {cc : gv_Rs} {many : Nat} {number : Nat} (hp263 : oX12 G 263) (p0 : okW (A 264)) (p1 : okLw (A 264)) (p2 : ∀ p, p < 8 → A 273 p < 16) (p3 : 1 ≤ many ∧ many ≤ 3) (p4 : 0 < A 264 0) (p5 : number < 512) : ∃ A1 : Nat → Nat → Nat, Ev X (d + 8) gvm_311 0 (gv_enter [.ref 263, .int (nI many), .int (nI number)] 5) [] (G, (mI A, j), cc) (.inl (some (.int (zo (!decide (lkN (A 273) 60 1 (boR (pgR (A 264) many number)) = 4294967295))))), (G, (mI A1, j), cc)) ∧ (okW (A1 264)) ∧ (eqG (pgR (A 264) many number) (A1 264)) ∧ (frG A A1) := by
  obtain ⟨_, h, A1, rfl, hp⟩ := r_isProof_p (X := X) (d := d) (G := G) (A := A) (j := j) (cc := cc) (many := many) (number := number) (P := fun r => ∃ A1 : Nat → Nat → Nat, r = (.inl (some (.int (zo (!decide (lkN (A 273) 60 1 (boR (pgR (A 264) many number)) = 4294967295))))), (G, (mI A1, j), cc)) ∧ (okW (A1 264)) ∧ (eqG (pgR (A 264) many number) (A1 264)) ∧ (frG A A1)) hp263 p0 p1 p2 p3 p4 p5 (fun A1 h => ⟨A1, rfl, h⟩)
  exact ⟨A1, h, hp⟩
