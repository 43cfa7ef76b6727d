/-! how the reference reads -/
def inR (t : Nat → Nat) (lo hi x : Nat) : Bool := decide (lo ≤ t x ∧ t x ≤ hi)
/-- the end of a run -/
def skp (t : Nat → Nat) (E lo hi i : Nat) : Nat := lstN (fun x => !inR t lo hi x) (E - i) i
def skB (t : Nat → Nat) (E i : Nat) : Nat := skp t E 32 32 i
def ltE (t : Nat → Nat) (E i : Nat) : Nat := skp t E 97 122 i
def dgE (t : Nat → Nat) (E i : Nat) : Nat := skp t E 48 57 i
theorem skp_b {t : Nat → Nat} {E lo hi i : Nat} (h : i ≤ E) : i ≤ skp t E lo hi i ∧ skp t E lo hi i ≤ E := by
  unfold skp
  have a := lst_ge (f := fun x => !inR t lo hi x) (i := E - i) (x := i)
  have b := lst_le (f := fun x => !inR t lo hi x) (i := E - i) (x := i)
  omega
theorem skp_s {t : Nat → Nat} {E lo hi i : Nat} (h : i < E) (h2 : lo ≤ t i ∧ t i ≤ hi) : skp t E lo hi i = skp t E lo hi (i + 1) := by
  unfold skp
  rw [show E - i = (E - (i + 1)) + 1 by omega]
  show (if (!inR t lo hi i) = true then i else _) = _
  rw [if_neg (by unfold inR; rw [decide_eq_true h2]; decide)]
theorem skp_e {t : Nat → Nat} {E lo hi i : Nat} (h : ¬ (i < E ∧ lo ≤ t i ∧ t i ≤ hi)) (h1 : i ≤ E) : skp t E lo hi i = i := by
  unfold skp
  by_cases h2 : i < E
  · rw [show E - i = (E - (i + 1)) + 1 by omega]
    show (if (!inR t lo hi i) = true then i else _) = _
    rw [if_pos (by unfold inR; rw [decide_eq_false (fun x => h ⟨h2, x⟩)]; rfl)]
  · rw [show E - i = 0 by omega]
    rfl
theorem skp_d {t : Nat → Nat} {E lo hi : Nat} : ∀ {n i : Nat}, E - i = n → i ≤ E → ¬ (skp t E lo hi i < E ∧ lo ≤ t (skp t E lo hi i) ∧ t (skp t E lo hi i) ≤ hi)
  | 0, i, hn, hE => by
    rw [skp_e (by omega) hE]
    omega
  | n + 1, i, hn, hE => by
    by_cases h : lo ≤ t i ∧ t i ≤ hi
    · rw [skp_s (by omega) h]
      exact skp_d (n := n) (by omega) (by omega)
    · rw [skp_e (fun x => h x.2) hE]
      exact fun x => h x.2
/-- point and begin -/
def lx (A : Nat → Nat → Nat) (p b : Nat) : Nat → Nat → Nat := gw A 263 (fun k => if k = 10 then p else if k = 12 then b else A 263 k)
theorem lx_q {A : Nat → Nat → Nat} {p b q : Nat} (h : q ≠ 263) : lx A p b q = A q := gw_row h
theorem lx_p (A : Nat → Nat → Nat) (p b : Nat) : lx A p b 263 10 = p := by unfold lx; rw [gw_at, if_pos rfl]
theorem lx_b (A : Nat → Nat → Nat) (p b : Nat) : lx A p b 263 12 = b := by unfold lx; rw [gw_at, if_neg (by decide), if_pos rfl]
theorem lx_k {A : Nat → Nat → Nat} {p b k : Nat} (h : k ≠ 10) (h2 : k ≠ 12) : lx A p b 263 k = A 263 k := by unfold lx; rw [gw_at, if_neg h, if_neg h2]
theorem lx_lx (A : Nat → Nat → Nat) (p b p' b' : Nat) : lx (lx A p b) p' b' = lx A p' b' := by
  unfold lx
  rw [gw_gw]
  congr 1
  funext k
  rw [gw_at]
  split
  · rfl
  · split
    · rfl
    · rfl
theorem lx_10 (A : Nat → Nat → Nat) (p b v : Nat) : gu (lx A p b) 263 10 v = lx A v b := by
  unfold lx
  rw [gu_gwr]
  congr 1
  funext k
  by_cases h : k = 10
  · rw [if_pos h, if_pos h]
  · rw [if_neg h, if_neg h, if_neg h]
theorem lx_12 (A : Nat → Nat → Nat) (p b v : Nat) : gu (lx A p b) 263 12 v = lx A p v := by
  unfold lx
  rw [gu_gwr]
  congr 1
  funext k
  by_cases h : k = 12
  · subst h; rfl
  · rw [if_neg h, if_neg h]
    by_cases h1 : k = 10
    · rw [if_pos h1, if_pos h1]
    · rw [if_neg h1, if_neg h1, if_neg h]
theorem lx_id (A : Nat → Nat → Nat) : lx A (A 263 10) (A 263 12) = A := by
  unfold lx
  rw [show (fun k => if k = 10 then A 263 10 else if k = 12 then A 263 12 else A 263 k) = A 263 from funext (fun k => by
    split
    · rename_i h; rw [h]
    · split
      · rename_i h; rw [h]
      · rfl), gw_self]
theorem lx_of (A : Nat → Nat → Nat) (v : Nat) : gu A 263 10 v = lx A v (A 263 12) := by
  have := lx_10 A (A 263 10) (A 263 12) v
  rwa [lx_id] at this
/-- the text of a word -/
def wl (q : Nat) : Nat := (gv_str gv_txT q).length
def mt (t : Nat → Nat) (b e q : Nat) : Bool := decide (e - b = wl q) && allN (fun k => decide (t (b + k) = chN q k)) (wl q)
theorem chN_c : ∀ q, q < 40 → ∀ k, k < 60 → decide (chN q k < 128) = true := by decide +kernel
theorem wl_c : ∀ q, q < 40 → decide (wl q < 60) = true := by decide +kernel
def dvN (t : Nat → Nat) (b : Nat) : Nat → Nat
  | 0 => 0
  | k + 1 => if k < 3 then 10 * dvN t b k + (t (b + k) - 48) else dvN t b k
theorem dvN_le {t : Nat → Nat} {b : Nat} : ∀ k, (∀ x, x < k → 48 ≤ t (b + x) ∧ t (b + x) ≤ 57) → dvN t b k ≤ 999 ∧ (k ≤ 2 → dvN t b k ≤ 99) ∧ (k ≤ 1 → dvN t b k ≤ 9) ∧ (k ≤ 0 → dvN t b k ≤ 0)
  | 0, _ => by unfold dvN; omega
  | k + 1, h => by
    have a := dvN_le (t := t) (b := b) k (fun x hx => h x (by omega))
    have c := h k (by omega)
    unfold dvN
    split <;> omega
def nmV (t : Nat → Nat) (E i h : Nat) : Nat := if dgE t E (skB t E i) = skB t E i ∨ 3 < dgE t E (skB t E i) - skB t E i ∨ sg h < sg (dvN t (skB t E i) (dgE t E (skB t E i) - skB t E i)) then 4294967295 else dvN t (skB t E i) (dgE t E (skB t E i) - skB t E i)
def nmE (t : Nat → Nat) (E i : Nat) : Nat := dgE t E (skB t E i)
theorem run_in {t : Nat → Nat} {E lo hi : Nat} : ∀ {n i x : Nat}, E - i = n → i ≤ x → x < skp t E lo hi i → i ≤ E → lo ≤ t x ∧ t x ≤ hi
  | 0, i, x, hn, h1, h2, h3 => by
    rw [skp_e (by omega) h3] at h2
    omega
  | n + 1, i, x, hn, h1, h2, h3 => by
    by_cases h : lo ≤ t i ∧ t i ≤ hi
    · by_cases e : x = i
      · subst e; exact h
      · rw [skp_s (by omega) h] at h2
        exact run_in (n := n) (by omega) (by omega) h2 (by omega)
    · rw [skp_e (fun x => h x.2) h3] at h2
      omega
theorem w214 {X : gv_X} {d : Nat} {G : gv_Sh} {A : Nat → Nat → Nat} {j : Nat → Nat → Int64} {cc : gv_Rs} {P : gv_O × gv_S → Prop} {lo : Nat} {hi : Nat} (hp263 : oX12 G 263) (H : ((A 263 10) < 2147483648) ∧ (((A 263 11) < 2147483648) ∧ ((((A 263 11) ≤ (A 263 10)) → P (.inl (some (.int (nI 0))), (G, (mI A, j), cc))) ∧ (((A 263 10) < (A 263 11)) → ((A 263 10) < 400) ∧ (((((A 269 (A 263 10)) + 2147483648) % 4294967296 < (lo + 2147483648) % 4294967296) → P (.inl (some (.int (nI 0))), (G, (mI A, j), cc))) ∧ (((lo + 2147483648) % 4294967296 ≤ ((A 269 (A 263 10)) + 2147483648) % 4294967296) → ((A 263 10) < 400) ∧ ((((hi + 2147483648) % 4294967296 < ((A 269 (A 263 10)) + 2147483648) % 4294967296) → P (.inl (some (.int (nI 0))), (G, (mI A, j), cc))) ∧ ((((A 269 (A 263 10)) + 2147483648) % 4294967296 ≤ (hi + 2147483648) % 4294967296) → P (.inl (some (.int (nI 1))), (G, (mI A, j), cc)))))))))) : EvP X (d + 0) gvm_214 0 (gv_enter [.ref 263, .int (nI lo), .int (nI hi)] 3) [] (G, (mI A, j), cc) P :=
  (pv_aload_n rfl rfl   (pn_getI rfl rfl (oX12_k hp263) rfl   (pv_aload_n rfl rfl   (pn_getI rfl rfl (oX12_k hp263) rfl   (pn_ic_ge rfl H.1 H.2.1 (fun c1 => (pn_iconst rfl rfl   (pv_iretz rfl rfl (Or.inl rfl) (H.2.2.1 c1)))) (fun c1 => (pv_aload_n rfl rfl   (pv_getP rfl rfl (oX12_k hp263) (oX12_8 hp263)   (pv_aload_n rfl rfl   (pn_getI rfl rfl (oX12_k hp263) rfl   (pn_bald rfl (oX12_8c hp263) (by decide) (H.2.2.2 c1).1 rfl (pv_iload_n rfl rfl   (pn_ic_ltw rfl  (fun c2 => (pn_iconst rfl rfl   (pv_iretz rfl rfl (Or.inl rfl) ((H.2.2.2 c1).2.1 c2)))) (fun c2 => (pv_aload_n rfl rfl   (pv_getP rfl rfl (oX12_k hp263) (oX12_8 hp263)   (pv_aload_n rfl rfl   (pn_getI rfl rfl (oX12_k hp263) rfl   (pn_bald rfl (oX12_8c hp263) (by decide) ((H.2.2.2 c1).2.2 c2).1 rfl (pv_iload_n rfl rfl   (pn_ic_gtw rfl  (fun c3 => (pn_iconst rfl rfl   (pv_iretz rfl rfl (Or.inl rfl) (((H.2.2.2 c1).2.2 c2).2.1 c3)))) (fun c3 => (pn_iconst rfl rfl   (pv_goto rfl (pv_iretz rfl rfl (Or.inr rfl) (((H.2.2.2 c1).2.2 c2).2.2 c3))))))))))))))))))))))))))
theorem r_isAt_p {X : gv_X} {d : Nat} {G : gv_Sh} {A : Nat → Nat → Nat} {j : Nat → Nat → Int64} {cc : gv_Rs} {P : gv_O × gv_S → Prop} {lo : Nat} {hi : Nat} (hp263 : oX12 G 263) (p0 : A 263 11 ≤ 400) (p1 : A 263 10 ≤ A 263 11) (p2 : ∀ i, i < 400 → A 269 i < 4294967296) (p3 : lo < 128) (p4 : hi < 128) (p5 : 1 ≤ lo) (hP : P (.inl (some (.int (zo (decide (A 263 10 < A 263 11 ∧ lo ≤ A 269 (A 263 10) ∧ A 269 (A 263 10) ≤ hi))))), (G, (mI A, j), cc))) : EvP X (d + 0) gvm_214 0 (gv_enter [.ref 263, .int (nI lo), .int (nI hi)] 3) [] (G, (mI A, j), cc) P := by
  have ht : A 263 10 < 400 → A 269 (A 263 10) < 4294967296 := p2 _
  refine w214 hp263  ⟨by (first | omega | (have := ht (by omega); omega)), ⟨by (first | omega | (have := ht (by omega); omega)), ⟨fun c1 => ?_, fun c1 => ⟨by (first | omega | (have := ht (by omega); omega)), ⟨fun c2 => ?_, fun c2 => ⟨by (first | omega | (have := ht (by omega); omega)), ⟨fun c3 => ?_, fun c3 => ?_⟩⟩⟩⟩⟩⟩⟩
  all_goals (try have h9 := ht (by omega))
  · exact qz0 hP (decide_eq_false (by omega))
  · exact qz0 hP (decide_eq_false (by omega))
  · exact qz0 hP (decide_eq_false (by omega))
  · exact qz1 hP (decide_eq_true (by omega))
theorem r_isAt {X : gv_X} {d : Nat} {G : gv_Sh} {A : Nat → Nat → Nat} {j : Nat → Nat → Int64} {cc : gv_Rs} {lo : Nat} {hi : Nat} (hp263 : oX12 G 263) (p0 : A 263 11 ≤ 400) (p1 : A 263 10 ≤ A 263 11) (p2 : ∀ i, i < 400 → A 269 i < 4294967296) (p3 : lo < 128) (p4 : hi < 128) (p5 : 1 ≤ lo) : Ev X (d + 0) gvm_214 0 (gv_enter [.ref 263, .int (nI lo), .int (nI hi)] 3) [] (G, (mI A, j), cc) (.inl (some (.int (zo (decide (A 263 10 < A 263 11 ∧ lo ≤ A 269 (A 263 10) ∧ A 269 (A 263 10) ≤ hi))))), (G, (mI A, j), cc)) := evp_det (r_isAt_p hp263 p0 p1 p2 p3 p4 p5 rfl)
theorem w215 {X : gv_X} {d : Nat} {G : gv_Sh} {A : Nat → Nat → Nat} {j : Nat → Nat → Int64} {cc : gv_Rs} {P : gv_O × gv_S → Prop}  (hp263 : oX12 G 263) (H : EvP X (d + 1) gvm_215 0 [some (.ref 263)] [] (G, (mI A, j), cc) P) : EvP X (d + 1) gvm_215 0 (gv_enter [.ref 263] 1) [] (G, (mI A, j), cc) P :=
  H
theorem w215_0 {X : gv_X} {d : Nat} {G : gv_Sh} {A : Nat → Nat → Nat} {j : Nat → Nat → Int64} {cc : gv_Rs} {P : gv_O × gv_S → Prop}  (hp263 : oX12 G 263) (H : (A 263 11 ≤ 400) ∧ ((A 263 10 ≤ A 263 11) ∧ ((∀ i, i < 400 → A 269 i < 4294967296) ∧ (((¬ (A 263 10 < A 263 11 ∧ 32 ≤ A 269 (A 263 10) ∧ A 269 (A 263 10) ≤ 32)) → P (.inl none, (G, (mI (gu A 263 12 (A 263 10)), j), cc))) ∧ ((A 263 10 < A 263 11 ∧ 32 ≤ A 269 (A 263 10) ∧ A 269 (A 263 10) ≤ 32) → EvP X (d + 1) gvm_215 0 [some (.ref 263)] [] (G, (mI (gu A 263 10 ((A 263 10) + 1)), j), cc) P))))) : EvP X (d + 1) gvm_215 0 (gv_enter [.ref 263] 1) [] (G, (mI A, j), cc) P :=
  (pv_aload_n rfl rfl   (pn_bipush rfl rfl   (pn_bipush rfl rfl   (pv_virt rfl rfl rfl rfl rfl (oX12_k hp263) rfl rfl rfl (r_isAt (lo := 32) (hi := 32) (A := A) hp263 H.1 H.2.1 H.2.2.1 (by decide) (by decide) (by decide) ) (pv_if_eq_dc rfl  (fun c1 => (pv_aload_n rfl rfl   (pv_aload_n rfl rfl   (pn_getI rfl rfl (oX12_k hp263) rfl   (pn_putI rfl rfl (oX12_k hp263)   (pv_vret rfl (H.2.2.2.1 c1))))))) (fun c1 => (pv_aload_n rfl rfl   (pv_dup rfl rfl   (pn_getI rfl rfl (oX12_k hp263) rfl   (pn_iconst rfl rfl   (pn_iadd rfl   (pn_putI rfl rfl (oX12_k hp263)   (pv_goto rfl (H.2.2.2.2 c1))))))))))))))
theorem r_blanks_p {X : gv_X} {d : Nat} {G : gv_Sh} {A : Nat → Nat → Nat} {j : Nat → Nat → Int64} {cc : gv_Rs} {P : gv_O × gv_S → Prop}  (hp263 : oX12 G 263) (p0 : A 263 11 ≤ 400) (p1 : A 263 10 ≤ A 263 11) (p2 : ∀ i, i < 400 → A 269 i < 4294967296) (hP : P (.inl none, (G, (mI (lx A (skB (A 269) (A 263 11) (A 263 10)) (skB (A 269) (A 263 11) (A 263 10))), j), cc))) : EvP X (d + 1) gvm_215 0 (gv_enter [.ref 263] 1) [] (G, (mI A, j), cc) P := by
  have L : ∀ n p, A 263 11 - p = n → p ≤ A 263 11 → skp (A 269) (A 263 11) 32 32 p = (skB (A 269) (A 263 11) (A 263 10)) → EvP X (d + 1) gvm_215 0 [some (.ref 263)] [] (G, (mI (lx A p (A 263 12)), j), cc) P := by
    intro n
    induction n with
    | zero =>
      intro p hn hp hs
      have e10 := lx_p A p (A 263 12)
      have e11 : lx A p (A 263 12) 263 11 = A 263 11 := lx_k (by decide) (by decide)
      have e9 : lx A p (A 263 12) 269 = A 269 := lx_q (by decide)
      refine w215_0 hp263  ⟨by (first | omega | (rw [e10, e11]; omega) | (rw [e11]; omega) | (rw [e9]; exact p2)), ⟨by (first | omega | (rw [e10, e11]; omega) | (rw [e11]; omega) | (rw [e9]; exact p2)), ⟨by (first | omega | (rw [e10, e11]; omega) | (rw [e11]; omega) | (rw [e9]; exact p2)), ⟨fun c1 => ?_, fun c1 => ?_⟩⟩⟩⟩
      · rw [e10, e11, e9] at c1; rw [e10, lx_12]; rw [skp_e c1 hp] at hs; exact qm hP (by rw [← hs])
      · rw [e10, e11] at c1; omega
    | succ n ih =>
      intro p hn hp hs
      have e10 := lx_p A p (A 263 12)
      have e11 : lx A p (A 263 12) 263 11 = A 263 11 := lx_k (by decide) (by decide)
      have e9 : lx A p (A 263 12) 269 = A 269 := lx_q (by decide)
      refine w215_0 hp263  ⟨by (first | omega | (rw [e10, e11]; omega) | (rw [e11]; omega) | (rw [e9]; exact p2)), ⟨by (first | omega | (rw [e10, e11]; omega) | (rw [e11]; omega) | (rw [e9]; exact p2)), ⟨by (first | omega | (rw [e10, e11]; omega) | (rw [e11]; omega) | (rw [e9]; exact p2)), ⟨fun c1 => ?_, fun c1 => ?_⟩⟩⟩⟩
      · rw [e10, e11, e9] at c1; rw [e10, lx_12]; rw [skp_e c1 hp] at hs; exact qm hP (by rw [← hs])
      · rw [e10, e11, e9] at c1
        rw [e10, lx_10]
        exact ih (p + 1) (by omega) (by omega) (by rw [← skp_s c1.1 c1.2]; exact hs)
  have h0 := L (A 263 11 - A 263 10) (A 263 10) rfl p1 rfl
  rw [lx_id] at h0
  exact w215 hp263 h0
theorem r_blanks {X : gv_X} {d : Nat} {G : gv_Sh} {A : Nat → Nat → Nat} {j : Nat → Nat → Int64} {cc : gv_Rs}  (hp263 : oX12 G 263) (p0 : A 263 11 ≤ 400) (p1 : A 263 10 ≤ A 263 11) (p2 : ∀ i, i < 400 → A 269 i < 4294967296) : Ev X (d + 1) gvm_215 0 (gv_enter [.ref 263] 1) [] (G, (mI A, j), cc) (.inl none, (G, (mI (lx A (skB (A 269) (A 263 11) (A 263 10)) (skB (A 269) (A 263 11) (A 263 10))), j), cc)) := evp_det (r_blanks_p hp263 p0 p1 p2 rfl)
theorem w216 {X : gv_X} {d : Nat} {G : gv_Sh} {A : Nat → Nat → Nat} {j : Nat → Nat → Int64} {cc : gv_Rs} {P : gv_O × gv_S → Prop}  (hp263 : oX12 G 263) (H : (A 263 11 ≤ 400) ∧ ((A 263 10 ≤ A 263 11) ∧ ((∀ i, i < 400 → A 269 i < 4294967296) ∧ ((∀ A1 : Nat → Nat → Nat, A1 = (lx A (skB (A 269) (A 263 11) (A 263 10)) (skB (A 269) (A 263 11) (A 263 10))) → EvP X (d + 2) gvm_216 4 [some (.ref 263)] [] (G, (mI A1, j), cc) P))))) : EvP X (d + 2) gvm_216 0 (gv_enter [.ref 263] 1) [] (G, (mI A, j), cc) P :=
  (pv_aload_n rfl rfl   (match (⟨(lx A (skB (A 269) (A 263 11) (A 263 10)) (skB (A 269) (A 263 11) (A 263 10))), rfl⟩ : ∃ Z : Nat → Nat → Nat, Z = (lx A (skB (A 269) (A 263 11) (A 263 10)) (skB (A 269) (A 263 11) (A 263 10)))) with | ⟨A1, q1⟩ => pv_virt rfl rfl rfl rfl rfl (oX12_k hp263) rfl rfl rfl (ev_eqM q1 (r_blanks (A := A) hp263 H.1 H.2.1 H.2.2.1 )) (H.2.2.2 A1 q1)))
theorem w216_4 {X : gv_X} {d : Nat} {G : gv_Sh} {A : Nat → Nat → Nat} {j : Nat → Nat → Int64} {cc : gv_Rs} {P : gv_O × gv_S → Prop}  (hp263 : oX12 G 263) (H : (A 263 11 ≤ 400) ∧ ((A 263 10 ≤ A 263 11) ∧ ((∀ i, i < 400 → A 269 i < 4294967296) ∧ (((¬ (A 263 10 < A 263 11 ∧ 97 ≤ A 269 (A 263 10) ∧ A 269 (A 263 10) ≤ 122)) → P (.inl none, (G, (mI A, j), cc))) ∧ ((A 263 10 < A 263 11 ∧ 97 ≤ A 269 (A 263 10) ∧ A 269 (A 263 10) ≤ 122) → EvP X (d + 2) gvm_216 4 [some (.ref 263)] [] (G, (mI (gu A 263 10 ((A 263 10) + 1)), j), cc) P))))) : EvP X (d + 2) gvm_216 4 [some (.ref 263)] [] (G, (mI A, j), cc) P :=
  (pv_aload_n rfl rfl   (pn_bipush rfl rfl   (pn_bipush rfl rfl   (pv_virt rfl rfl rfl rfl rfl (oX12_k hp263) rfl rfl rfl (r_isAt (lo := 97) (hi := 122) (A := A) hp263 H.1 H.2.1 H.2.2.1 (by decide) (by decide) (by decide) ) (pv_if_eq_dc rfl  (fun c1 => (pv_vret rfl (H.2.2.2.1 c1))) (fun c1 => (pv_aload_n rfl rfl   (pv_dup rfl rfl   (pn_getI rfl rfl (oX12_k hp263) rfl   (pn_iconst rfl rfl   (pn_iadd rfl   (pn_putI rfl rfl (oX12_k hp263)   (pv_goto rfl (H.2.2.2.2 c1))))))))))))))
theorem r_letters_p {X : gv_X} {d : Nat} {G : gv_Sh} {A : Nat → Nat → Nat} {j : Nat → Nat → Int64} {cc : gv_Rs} {P : gv_O × gv_S → Prop}  (hp263 : oX12 G 263) (p0 : A 263 11 ≤ 400) (p1 : A 263 10 ≤ A 263 11) (p2 : ∀ i, i < 400 → A 269 i < 4294967296) (hP : P (.inl none, (G, (mI (lx A (ltE (A 269) (A 263 11) (skB (A 269) (A 263 11) (A 263 10))) (skB (A 269) (A 263 11) (A 263 10))), j), cc))) : EvP X (d + 2) gvm_216 0 (gv_enter [.ref 263] 1) [] (G, (mI A, j), cc) P := by
  have hb := skp_b (t := A 269) (E := A 263 11) (lo := 32) (hi := 32) (i := A 263 10) p1
  have L : ∀ n p, A 263 11 - p = n → p ≤ A 263 11 → skp (A 269) (A 263 11) 97 122 p = (ltE (A 269) (A 263 11) (skB (A 269) (A 263 11) (A 263 10))) → EvP X (d + 2) gvm_216 4 [some (.ref 263)] [] (G, (mI (lx A p (skB (A 269) (A 263 11) (A 263 10))), j), cc) P := by
    intro n
    induction n with
    | zero =>
      intro p hn hp hs
      have e10 := lx_p A p (skB (A 269) (A 263 11) (A 263 10))
      have e11 : lx A p (skB (A 269) (A 263 11) (A 263 10)) 263 11 = A 263 11 := lx_k (by decide) (by decide)
      have e9 : lx A p (skB (A 269) (A 263 11) (A 263 10)) 269 = A 269 := lx_q (by decide)
      refine w216_4 hp263  ⟨by (first | omega | (rw [e10, e11]; omega) | (rw [e11]; omega) | (rw [e9]; exact p2)), ⟨by (first | omega | (rw [e10, e11]; omega) | (rw [e11]; omega) | (rw [e9]; exact p2)), ⟨by (first | omega | (rw [e10, e11]; omega) | (rw [e11]; omega) | (rw [e9]; exact p2)), ⟨fun c1 => ?_, fun c1 => ?_⟩⟩⟩⟩
      · rw [e10, e11, e9] at c1; rw [skp_e c1 hp] at hs; exact qm hP (by rw [← hs])
      · rw [e10, e11] at c1; omega
    | succ n ih =>
      intro p hn hp hs
      have e10 := lx_p A p (skB (A 269) (A 263 11) (A 263 10))
      have e11 : lx A p (skB (A 269) (A 263 11) (A 263 10)) 263 11 = A 263 11 := lx_k (by decide) (by decide)
      have e9 : lx A p (skB (A 269) (A 263 11) (A 263 10)) 269 = A 269 := lx_q (by decide)
      refine w216_4 hp263  ⟨by (first | omega | (rw [e10, e11]; omega) | (rw [e11]; omega) | (rw [e9]; exact p2)), ⟨by (first | omega | (rw [e10, e11]; omega) | (rw [e11]; omega) | (rw [e9]; exact p2)), ⟨by (first | omega | (rw [e10, e11]; omega) | (rw [e11]; omega) | (rw [e9]; exact p2)), ⟨fun c1 => ?_, fun c1 => ?_⟩⟩⟩⟩
      · rw [e10, e11, e9] at c1; rw [skp_e c1 hp] at hs; exact qm hP (by rw [← hs])
      · rw [e10, e11, e9] at c1
        rw [e10, lx_10]
        exact ih (p + 1) (by omega) (by omega) (by rw [← skp_s c1.1 c1.2]; exact hs)
  refine w216 hp263  ⟨by (first | omega | assumption), ⟨by (first | omega | assumption), ⟨by (first | omega | assumption), (fun A1 q1 => ?_)⟩⟩⟩
  rw [q1]
  exact L _ (skB (A 269) (A 263 11) (A 263 10)) rfl hb.2 rfl
theorem r_letters {X : gv_X} {d : Nat} {G : gv_Sh} {A : Nat → Nat → Nat} {j : Nat → Nat → Int64} {cc : gv_Rs}  (hp263 : oX12 G 263) (p0 : A 263 11 ≤ 400) (p1 : A 263 10 ≤ A 263 11) (p2 : ∀ i, i < 400 → A 269 i < 4294967296) : Ev X (d + 2) gvm_216 0 (gv_enter [.ref 263] 1) [] (G, (mI A, j), cc) (.inl none, (G, (mI (lx A (ltE (A 269) (A 263 11) (skB (A 269) (A 263 11) (A 263 10))) (skB (A 269) (A 263 11) (A 263 10))), j), cc)) := evp_det (r_letters_p hp263 p0 p1 p2 rfl)
theorem w217 {X : gv_X} {d : Nat} {G : gv_Sh} {A : Nat → Nat → Nat} {j : Nat → Nat → Int64} {cc : gv_Rs} {P : gv_O × gv_S → Prop} {q : Nat} (hp263 : oX12 G 263) (H : ((A 263 12) ≤ (A 263 10)) ∧ ((1 ≤ q ∧ q - 1 < gv_txT.length) ∧ ((((A 263 10) - (A 263 12)) < 4294967296) ∧ (((gv_str gv_txT q).length < 4294967296) ∧ (((¬ ((A 263 10) - (A 263 12)) = (gv_str gv_txT q).length) → EvP X (d + 0) gvm_217 24 [some (.ref 263), some (.retAddr q), some (.int (nI 0)), some (.int (nI 0))] [] (G, (mI A, j), cc) P) ∧ ((((A 263 10) - (A 263 12)) = (gv_str gv_txT q).length) → EvP X (d + 0) gvm_217 24 [some (.ref 263), some (.retAddr q), some (.int (nI 1)), some (.int (nI 0))] [] (G, (mI A, j), cc) P)))))) : EvP X (d + 0) gvm_217 0 (gv_enter [.ref 263, .retAddr q] 4) [] (G, (mI A, j), cc) P :=
  (pv_aload_n rfl rfl   (pn_getI rfl rfl (oX12_k hp263) rfl   (pv_aload_n rfl rfl   (pn_getI rfl rfl (oX12_k hp263) rfl   (pn_isub rfl H.1  (pv_xload_n rfl rfl   (pn_slen rfl H.2.1 rfl (pn_ic_ne rfl H.2.2.1 H.2.2.2.1 (fun c1 => (pn_iconst rfl rfl   (pv_istore_n rfl rfl   (pn_iconst rfl rfl   (pv_istore_n rfl rfl   (H.2.2.2.2.1 c1)))))) (fun c1 => (pn_iconst rfl rfl   (pv_goto rfl (pv_istore_n rfl rfl   (pn_iconst rfl rfl   (pv_istore_n rfl rfl   (H.2.2.2.2.2 c1)))))))))))))))
theorem w217_24 {X : gv_X} {d : Nat} {G : gv_Sh} {A : Nat → Nat → Nat} {j : Nat → Nat → Int64} {cc : gv_Rs} {P : gv_O × gv_S → Prop} {q : Nat} {l2 : Nat} {l3 : Nat} (hp263 : oX12 G 263) (H : (l2 < 4294967296) ∧ (((l2 = 0) → ((nI l2) = 0 ∨ (nI l2) = 1) ∧ P (.inl (some (.int (nI l2))), (G, (mI A, j), cc))) ∧ ((¬ l2 = 0) → (1 ≤ q ∧ q - 1 < gv_txT.length) ∧ ((l3 < 2147483648) ∧ (((gv_str gv_txT q).length < 2147483648) ∧ ((((gv_str gv_txT q).length ≤ l3) → ((nI l2) = 0 ∨ (nI l2) = 1) ∧ P (.inl (some (.int (nI l2))), (G, (mI A, j), cc))) ∧ ((l3 < (gv_str gv_txT q).length) → (((A 263 12) + l3) < 400) ∧ ((1 ≤ q ∧ q - 1 < gv_txT.length) ∧ ((l3 < (gv_str gv_txT q).length) ∧ (((A 269 ((A 263 12) + l3)) < 4294967296) ∧ (((chN q l3) < 4294967296) ∧ (((¬ (A 269 ((A 263 12) + l3)) = (chN q l3)) → EvP X (d + 0) gvm_217 24 [some (.ref 263), some (.retAddr q), some (.int (nI 0)), some (.int (nI (l3 + 1)))] [] (G, (mI A, j), cc) P) ∧ (((A 269 ((A 263 12) + l3)) = (chN q l3)) → EvP X (d + 0) gvm_217 24 [some (.ref 263), some (.retAddr q), some (.int (nI 1)), some (.int (nI (l3 + 1)))] [] (G, (mI A, j), cc) P))))))))))))) : EvP X (d + 0) gvm_217 24 [some (.ref 263), some (.retAddr q), some (.int (nI l2)), some (.int (nI l3))] [] (G, (mI A, j), cc) P :=
  (pv_iload_n rfl rfl   (pn_if_eq rfl H.1 (fun c1 => (pv_iload_n rfl rfl   (pv_iretz rfl rfl (H.2.1 c1).1 (H.2.1 c1).2))) (fun c1 => (pv_iload_n rfl rfl   (pv_xload_n rfl rfl   (pn_slen rfl (H.2.2 c1).1 rfl (pn_ic_ge rfl (H.2.2 c1).2.1 (H.2.2 c1).2.2.1 (fun c2 => (pv_iload_n rfl rfl   (pv_iretz rfl rfl ((H.2.2 c1).2.2.2.1 c2).1 ((H.2.2 c1).2.2.2.1 c2).2))) (fun c2 => (pv_aload_n rfl rfl   (pv_getP rfl rfl (oX12_k hp263) (oX12_8 hp263)   (pv_aload_n rfl rfl   (pn_getI rfl rfl (oX12_k hp263) rfl   (pv_iload_n rfl rfl   (pn_iadd rfl   (pn_bald rfl (oX12_8c hp263) (by decide) ((H.2.2 c1).2.2.2.2 c2).1 rfl (pv_xload_n rfl rfl   (pv_iload_n rfl rfl   (pn_schar rfl ((H.2.2 c1).2.2.2.2 c2).2.1 ((H.2.2 c1).2.2.2.2 c2).2.2.1 rfl (pn_ic_ne rfl ((H.2.2 c1).2.2.2.2 c2).2.2.2.1 ((H.2.2 c1).2.2.2.2 c2).2.2.2.2.1 (fun c3 => (pn_iconst rfl rfl   (pv_istore_n rfl rfl   (pn_iinc rfl rfl rfl rfl   (pv_goto rfl (((H.2.2 c1).2.2.2.2 c2).2.2.2.2.2.1 c3)))))) (fun c3 => (pn_iconst rfl rfl   (pv_goto rfl (pv_istore_n rfl rfl   (pn_iinc rfl rfl rfl rfl   (pv_goto rfl (((H.2.2 c1).2.2.2.2 c2).2.2.2.2.2.2 c3))))))))))))))))))))))))))
theorem r_isWord_p {X : gv_X} {d : Nat} {G : gv_Sh} {A : Nat → Nat → Nat} {j : Nat → Nat → Int64} {cc : gv_Rs} {P : gv_O × gv_S → Prop} {q : Nat} (hp263 : oX12 G 263) (p0 : A 263 12 ≤ A 263 10 ∧ A 263 10 ≤ 400) (p1 : ∀ i, i < 400 → A 269 i < 4294967296) (p2 : 1 ≤ q ∧ q < 40) (hP : P (.inl (some (.int (zo (mt (A 269) (A 263 12) (A 263 10) q)))), (G, (mI A, j), cc))) : EvP X (d + 0) gvm_217 0 (gv_enter [.ref 263, .retAddr q] 4) [] (G, (mI A, j), cc) P := by
  have hw := of_decide_eq_true (wl_c q p2.2)
  have hx : gv_txT.length = 39 := by decide +kernel
  have hq : 1 ≤ q ∧ q - 1 < gv_txT.length := by rw [hx]; omega
  have hwl : wl q = (gv_str gv_txT q).length := rfl
  have N : mt (A 269) (A 263 12) (A 263 10) q = false → EvP X (d + 0) gvm_217 24 [some (.ref 263), some (.retAddr q), some (.int (nI 0)), some (.int (nI 0))] [] (G, (mI A, j), cc) P := fun e => w217_24 hp263 ⟨by decide, fun c1 => ⟨Or.inl rfl, qz0 hP e⟩, fun c1 => absurd rfl c1⟩
  have L : A 263 10 - A 263 12 = wl q → ∀ k, k ≤ wl q → EvP X (d + 0) gvm_217 24 [some (.ref 263), some (.retAddr q), some (.int (nI (allN (fun k => decide (A 269 (A 263 12 + k) = chN q k)) k).toNat)), some (.int (nI k))] [] (G, (mI A, j), cc) P := by
    intro hl
    have hD : mt (A 269) (A 263 12) (A 263 10) q = allN (fun k => decide (A 269 (A 263 12 + k) = chN q k)) (wl q) := by unfold mt; rw [decide_eq_true hl]; rfl
    have hF : ∀ r, r ≤ wl q → allN (fun k => decide (A 269 (A 263 12 + k) = chN q k)) r = false → mt (A 269) (A 263 12) (A 263 10) q = false := fun r hr e => by
      rw [hD]
      cases hy : allN (fun k => decide (A 269 (A 263 12 + k) = chN q k)) (wl q) with
      | false => rfl
      | true => rw [allN_iff.mpr (fun k hk => allN_iff.mp hy k (by omega))] at e; cases e
    refine up_ind (wl q) ?_ ?_
    · cases hy : allN (fun k => decide (A 269 (A 263 12 + k) = chN q k)) (wl q) with
      | false => exact w217_24 hp263 ⟨by decide, fun c1 => ⟨Or.inl rfl, qz0 hP (hF _ (Nat.le_refl _) hy)⟩, fun c1 => absurd rfl c1⟩
      | true => exact w217_24 hp263 ⟨by decide, fun c1 => absurd c1 (by decide), fun c1 => ⟨hq, by omega, by omega, fun c2 => ⟨Or.inr rfl, qz1 hP (by rw [hD, hy])⟩, fun c2 => by omega⟩⟩
    · intro k hk ih
      have t0 := p1 (A 263 12 + k) (by omega)
      have hc := of_decide_eq_true (chN_c q p2.2 k (by omega))
      have hs : allN (fun k => decide (A 269 (A 263 12 + k) = chN q k)) (k + 1) = (allN (fun k => decide (A 269 (A 263 12 + k) = chN q k)) k && decide (A 269 (A 263 12 + k) = chN q k)) := rfl
      cases hy : allN (fun k => decide (A 269 (A 263 12 + k) = chN q k)) k with
      | false => exact w217_24 hp263 ⟨by decide, fun c1 => ⟨Or.inl rfl, qz0 hP (hF k (by omega) hy)⟩, fun c1 => absurd rfl c1⟩
      | true =>
        rw [hs, hy, Bool.true_and] at ih
        refine w217_24 hp263 ⟨by decide, fun c1 => absurd c1 (by decide), fun c1 => ⟨hq, by omega, by omega, fun c2 => by omega, fun c2 => ⟨by omega, hq, by omega, by omega, by omega, fun c3 => ?_, fun c3 => ?_⟩⟩⟩
        · rw [decide_eq_false c3] at ih; exact ih
        · rw [decide_eq_true c3] at ih; exact ih
  refine w217 hp263  ⟨by (first | omega | exact hq), ⟨by (first | omega | exact hq), ⟨by (first | omega | exact hq), ⟨by (first | omega | exact hq), ⟨fun c1 => ?_, fun c1 => ?_⟩⟩⟩⟩⟩
  · refine N ?_
    unfold mt
    rw [decide_eq_false (by omega)]
    rfl
  · exact L (by omega) 0 (by omega)
theorem r_isWord {X : gv_X} {d : Nat} {G : gv_Sh} {A : Nat → Nat → Nat} {j : Nat → Nat → Int64} {cc : gv_Rs} {q : Nat} (hp263 : oX12 G 263) (p0 : A 263 12 ≤ A 263 10 ∧ A 263 10 ≤ 400) (p1 : ∀ i, i < 400 → A 269 i < 4294967296) (p2 : 1 ≤ q ∧ q < 40) : Ev X (d + 0) gvm_217 0 (gv_enter [.ref 263, .retAddr q] 4) [] (G, (mI A, j), cc) (.inl (some (.int (zo (mt (A 269) (A 263 12) (A 263 10) q)))), (G, (mI A, j), cc)) := evp_det (r_isWord_p hp263 p0 p1 p2 rfl)
