/-! most, odds -/
def amF (R T : Nat → Nat) (w p : Nat) : Nat := if w = 0 then R (30 + 9 * p + 0) else if w = 1 then R 6 + lsum R (T p) p 0 else usN R p
def msN (R T : Nat → Nat) (w : Nat) : Nat → Nat
  | 0 => 4294967295
  | p + 1 => if msN R T w p = 4294967295 ∨ amF R T w (msN R T w p) < amF R T w p then p else msN R T w p
def spMost (R : Nat → Nat) (w : Nat) : Nat × Nat := if 2 < w then (1, 0) else (0, msN R (tbF R) w (R 0))
theorem msN_lt {R T : Nat → Nat} {w : Nat} : ∀ p, msN R T w p = 4294967295 ∨ msN R T w p < p
  | 0 => Or.inl rfl
  | p + 1 => by
    have := msN_lt (R := R) (T := T) (w := w) p
    unfold msN
    split <;> omega
theorem amF_le {R T : Nat → Nat} (h : okW R) (h2 : okLw R) {w p : Nat} (hp : p < 8) : amF R T w p ≤ 1000 := by
  have a := (okW_o h hp).1
  have b := lsum_le (t := T p) (p := p) (w := 0) h2
  have c := okW_n h
  have e : usN R p ≤ R 3 := cntN_le _ _
  unfold amF
  split
  · omega
  · split <;> omega
theorem amF_T {R T U : Nat → Nat} {w p : Nat} (h : T p = U p) : amF R T w p = amF R U w p := by unfold amF; rw [h]
def wyN (a : Nat) : Nat → Nat → Nat
  | 0, i => if i = 0 then 1 else 0
  | t + 1, i => wyN a t i * (100 - a) + (if i = 0 then 0 else wyN a t (i - 1) * a)
def suN (f : Nat → Nat) : Nat → Nat → Nat
  | 0, _ => 0
  | i + 1, k => f k + suN f i (k + 1)
def spOdds (R : Nat → Nat) (n k : Nat) : Nat × Nat := if 5 < n ∨ 5 < k then (1, 0) else (0, 10000 * suN (wyN (R 7) n) (6 - k) k / 100 ^ n)
theorem wy_le : ∀ a, a < 101 → ∀ n, n < 6 → ∀ k, k < 6 → decide (suN (wyN a n) (6 - k) k ≤ 10000000000) = true := by decide +kernel
theorem lN_div {a b : Nat} (ha : a < 9223372036854775808) (hb : b < 9223372036854775808) (h0 : 0 < b) : lN a / lN b = lN (a / b) := by
  have hl : a / b ≤ a := Nat.div_le_self _ _
  apply Int64.toInt_inj.mp
  rw [Int64.toInt_div]
  show ((Int64.ofNat a).toInt.tdiv (Int64.ofNat b).toInt).bmod (2 ^ 64) = (Int64.ofNat (a / b)).toInt
  rw [Int64.toInt_ofNat_of_lt ha, Int64.toInt_ofNat_of_lt hb, Int64.toInt_ofNat_of_lt (by omega), ← Int.ofNat_tdiv]
  generalize a / b = q at hl ⊢
  rw [Int.bmod_eq_of_le (by omega) (by omega)]
theorem lN_ne {b : Nat} (hb : b < 9223372036854775808) (h0 : 0 < b) : ¬ lN b = 0 := by
  intro e
  have := congrArg Int64.toInt e
  rw [show lN b = Int64.ofNat b from rfl, Int64.toInt_ofNat_of_lt hb] at this
  have z : Int64.toInt 0 = 0 := rfl
  omega
theorem w340 {X : gv_X} {d : Nat} {G : gv_Sh} {A : Nat → Nat → Nat} {j : Nat → Nat → Int64} {cc : gv_Rs} {P : gv_O × gv_S → Prop} {w : Nat} {p : Nat} (hp263 : oX12 G 263) (H : (w < 4294967296) ∧ (((¬ w = 0) → (w < 4294967296) ∧ (((¬ w = 1) → (okW (A 264)) ∧ ((p < 4294967296) ∧ (P (.inl (some (.int (nI (cntN (fun k => decide (A 264 (12 + k) = p)) (A 264 3))))), (G, (mI A, j), cc))))) ∧ ((w = 1) → (okW (A 264)) ∧ ((okLw (A 264)) ∧ ((p < 8) ∧ ((A 273 p < 16) ∧ ((∀ A12 : Nat → Nat → Nat, ((∀ q, q ≠ 275 → A12 q = A q)) → P (.inl (some (.int (nI (A 264 6 + lsum (A 264) (A 273 p) p 0)))), (G, (mI A12, j), cc)))))))))) ∧ ((w = 0) → (((30 + (9 * p)) + 0) < 2066) ∧ (P (.inl (some (.int (nI (A 264 ((30 + (9 * p)) + 0))))), (G, (mI A, j), cc)))))) : EvP X (d + 6) gvm_340 0 (gv_enter [.ref 263, .int (nI w), .int (nI p)] 3) [] (G, (mI A, j), cc) P :=
  (pv_iload_n rfl rfl   (pn_if_ne rfl H.1 (fun c1 => (pv_iload_n rfl rfl   (pn_iconst rfl rfl   (pn_ic_ne rfl (H.2.1 c1).1 (by decide) (fun c2 => (pv_aload_n rfl rfl   (pv_iload_n rfl rfl   (pv_virt rfl rfl rfl rfl rfl (oX12_k hp263) rfl rfl rfl (r_usesOf (p := p) (A := A) hp263 ((H.2.1 c1).2.1 c2).1 ((H.2.1 c1).2.1 c2).2.1 ) (pv_ireti rfl rfl ((H.2.1 c1).2.1 c2).2.2))))) (fun c2 => (pv_aload_n rfl rfl   (pv_iload_n rfl rfl   (match (r_emulationOf (p := p) (A := A) (X := X) (d := d + 0) (G := G) (j := j) (cc := cc) hp263 ((H.2.1 c1).2.2 c2).1 ((H.2.1 c1).2.2 c2).2.1 ((H.2.1 c1).2.2 c2).2.2.1 ((H.2.1 c1).2.2 c2).2.2.2.1 ) with | ⟨A12, e2x20, h3⟩ => pv_virt rfl rfl rfl rfl rfl (oX12_k hp263) rfl rfl rfl e2x20 (pv_goto rfl (pv_ireti rfl rfl (((H.2.1 c1).2.2 c2).2.2.2.2 A12 h3))))))))))) (fun c1 => (pv_aload_n rfl rfl   (pv_iload_n rfl rfl   (pn_iconst rfl rfl   (pv_virt rfl rfl rfl rfl rfl (oX12_k hp263) rfl rfl rfl (r_of (p := p) (what := 0) (A := A) hp263 (H.2.2 c1).1 ) (pv_goto rfl (pv_ireti rfl rfl (H.2.2 c1).2)))))))))
theorem r_amountOf_p {X : gv_X} {d : Nat} {G : gv_Sh} {A : Nat → Nat → Nat} {j : Nat → Nat → Int64} {cc : gv_Rs} {P : gv_O × gv_S → Prop} {w : Nat} {p : Nat} (hp263 : oX12 G 263) (p0 : okW (A 264)) (p1 : okLw (A 264)) (p2 : p < 8) (p3 : A 273 p < 16) (p4 : w ≤ 2) (hP : ∀ A1 : Nat → Nat → Nat, (∀ q, q ≠ 275 → A1 q = A q) → P (.inl (some (.int (nI (amF (A 264) (A 273) w p)))), (G, (mI A1, j), cc))) : EvP X (d + 6) gvm_340 0 (gv_enter [.ref 263, .int (nI w), .int (nI p)] 3) [] (G, (mI A, j), cc) P := by
  refine w340 hp263  ⟨by (first | omega | assumption), ⟨fun c1 => ⟨by (first | omega | assumption), ⟨fun c2 => ⟨by (first | omega | assumption), ⟨by (first | omega | assumption), ?_⟩⟩, fun c2 => ⟨by (first | omega | assumption), ⟨by (first | omega | assumption), ⟨by (first | omega | assumption), ⟨by (first | omega | assumption), (fun A12 h3 => ?_)⟩⟩⟩⟩⟩⟩, fun c1 => ⟨by (first | omega | assumption), ?_⟩⟩⟩
  · exact qn (hP _ (fun _ _ => rfl)) (by unfold amF; rw [if_neg (by omega), if_neg (by omega)]; rfl)
  · exact qn (hP _ h3) (by unfold amF; rw [if_neg (by omega), if_pos (by omega)])
  · exact qn (hP _ (fun _ _ => rfl)) (by unfold amF; rw [if_pos (by omega)])
theorem r_amountOf {X : gv_X} {d : Nat} {G : gv_Sh} {A : Nat → Nat → Nat} {j : Nat → Nat → Int64} {cc : gv_Rs} {w : Nat} {p : Nat} (hp263 : oX12 G 263) (p0 : okW (A 264)) (p1 : okLw (A 264)) (p2 : p < 8) (p3 : A 273 p < 16) (p4 : w ≤ 2) : ∃ A1 : Nat → Nat → Nat, Ev X (d + 6) gvm_340 0 (gv_enter [.ref 263, .int (nI w), .int (nI p)] 3) [] (G, (mI A, j), cc) (.inl (some (.int (nI (amF (A 264) (A 273) w p)))), (G, (mI A1, j), cc)) ∧ (∀ q, q ≠ 275 → A1 q = A q) := by
  obtain ⟨_, h, A1, rfl, hp⟩ := r_amountOf_p (X := X) (d := d) (G := G) (A := A) (j := j) (cc := cc) (w := w) (p := p) (P := fun r => ∃ A1 : Nat → Nat → Nat, r = (.inl (some (.int (nI (amF (A 264) (A 273) w p)))), (G, (mI A1, j), cc)) ∧ (∀ q, q ≠ 275 → A1 q = A q)) hp263 p0 p1 p2 p3 p4 (fun A1 h => ⟨A1, rfl, h⟩)
  exact ⟨A1, h, hp⟩
theorem w341 {X : gv_X} {d : Nat} {G : gv_Sh} {A : Nat → Nat → Nat} {j : Nat → Nat → Int64} {cc : gv_Rs} {P : gv_O × gv_S → Prop} {w : Nat} (hp263 : oX12 G 263) (H : (w < 4294967296) ∧ (((w ≤ 2) → (okW (A 264)) ∧ ((TrJ (gu A 263 0 0) j) ∧ ((∀ A11 : Nat → Nat → Nat, ∀ j11 : Nat → Nat → Int64, ((frT (gu A 263 0 0) A11) ∧ (∀ q, q ≠ 274 → j11 q = j q) ∧ (TrJ A11 j11) ∧ (∀ p, p < A 264 0 → A11 273 p = tbF (A 264) p)) → EvP X (d + 8) gvm_341 33 [some (.ref 263), some (.int (nI w)), none, none] [] (G, (mI A11, j11), cc) P)))) ∧ ((¬ (w ≤ 2)) → P (.inl (some (.int (nI 0))), (G, (mI (gu (gu A 263 0 0) 263 0 1), j), cc))))) : EvP X (d + 8) gvm_341 0 (gv_enter [.ref 263, .int (nI w)] 4) [] (G, (mI A, j), cc) P :=
  (pv_aload_n rfl rfl   (pn_iconst rfl rfl   (pn_putI rfl rfl (oX12_k hp263)   (pv_aload_n rfl rfl   (pv_iload_n rfl rfl   (pn_iconst rfl rfl   (pn_iconst rfl rfl   (pv_stat rfl rfl rfl rfl rfl rfl rfl rfl (r_in0 (v := w) (h := 2) H.1 (by decide)) (pv_if_ne_dc rfl  (fun c1 => (pn_iconst rfl rfl   (pn_iconst rfl rfl   (pv_virt rfl rfl rfl rfl rfl (oX12_k hp263) rfl rfl rfl (r_thr_f (b := false) (c := 1) (A := (gu A 263 0 0)) hp263 rfl) (pn_if_eq rfl (by decide) (fun _ => (pv_aload_n rfl rfl   (match (r_lays (A := (gu A 263 0 0)) (X := X) (d := d + 0) (G := G) (j := j) (cc := cc) hp263 (H.2.1 c1).1 (H.2.1 c1).2.1 ) with | ⟨A11, j11, e1x30, h3⟩ => pv_virt rfl rfl rfl rfl rfl (oX12_k hp263) rfl rfl rfl e1x30 ((H.2.1 c1).2.2 A11 j11 h3)))) (fun e => absurd e (by decide))))))) (fun c1 => (pn_iconst rfl rfl   (pv_goto rfl (pn_iconst rfl rfl   (pv_virt rfl rfl rfl rfl rfl (oX12_k hp263) rfl rfl rfl (r_thr_t (b := true) (c := 1) (A := (gu A 263 0 0)) hp263 rfl) (pn_if_eq rfl (by decide) (fun e => absurd e (by decide)) (fun _ => (pn_iconst rfl rfl   (pv_ireti rfl rfl (H.2.2 c1)))))))))))))))))))
theorem w341_33 {X : gv_X} {d : Nat} {G : gv_Sh} {A : Nat → Nat → Nat} {j : Nat → Nat → Int64} {cc : gv_Rs} {P : gv_O × gv_S → Prop} {w : Nat} (hp263 : oX12 G 263) (H : EvP X (d + 8) gvm_341 37 [some (.ref 263), some (.int (nI w)), some (.int (nI 4294967295)), some (.int (nI 0))] [] (G, (mI A, j), cc) P) : EvP X (d + 8) gvm_341 33 [some (.ref 263), some (.int (nI w)), none, none] [] (G, (mI A, j), cc) P :=
  (pn_iconst rfl (by decide)   (pv_istore_n rfl rfl   (pn_iconst rfl rfl   (pv_istore_n rfl rfl   H))))
theorem w341_37 {X : gv_X} {d : Nat} {G : gv_Sh} {A : Nat → Nat → Nat} {j : Nat → Nat → Int64} {cc : gv_Rs} {P : gv_O × gv_S → Prop} {w : Nat} {l2 : Nat} {l3 : Nat} (hp263 : oX12 G 263) (H : (l3 < 2147483648) ∧ (((A 264 0) < 2147483648) ∧ ((((A 264 0) ≤ l3) → P (.inl (some (.int (nI l2))), (G, (mI A, j), cc))) ∧ ((l3 < (A 264 0)) → (l2 < 4294967296) ∧ (((l2 = 4294967295) → EvP X (d + 8) gvm_341 37 [some (.ref 263), some (.int (nI w)), some (.int (nI l3)), some (.int (nI (l3 + 1)))] [] (G, (mI A, j), cc) P) ∧ ((¬ l2 = 4294967295) → (okW (A 264)) ∧ ((okLw (A 264)) ∧ ((l3 < 8) ∧ ((A 273 l3 < 16) ∧ ((w ≤ 2) ∧ ((∀ A12 : Nat → Nat → Nat, ((∀ q, q ≠ 275 → A12 q = A q)) → (okW (A12 264)) ∧ ((okLw (A12 264)) ∧ ((l2 < 8) ∧ ((A12 273 l2 < 16) ∧ ((w ≤ 2) ∧ ((∀ A13 : Nat → Nat → Nat, ((∀ q, q ≠ 275 → A13 q = A12 q)) → ((amF (A 264) (A 273) w l3) < 2147483648) ∧ (((amF (A12 264) (A12 273) w l2) < 2147483648) ∧ ((((amF (A 264) (A 273) w l3) ≤ (amF (A12 264) (A12 273) w l2)) → EvP X (d + 8) gvm_341 37 [some (.ref 263), some (.int (nI w)), some (.int (nI l2)), some (.int (nI (l3 + 1)))] [] (G, (mI A13, j), cc) P) ∧ (((amF (A12 264) (A12 273) w l2) < (amF (A 264) (A 273) w l3)) → EvP X (d + 8) gvm_341 37 [some (.ref 263), some (.int (nI w)), some (.int (nI l3)), some (.int (nI (l3 + 1)))] [] (G, (mI A13, j), cc) P))))))))))))))))))))) : EvP X (d + 8) gvm_341 37 [some (.ref 263), some (.int (nI w)), some (.int (nI l2)), some (.int (nI l3))] [] (G, (mI A, j), cc) P :=
  (pv_iload_n rfl rfl   (pv_aload_n rfl rfl   (pv_virt rfl rfl rfl rfl rfl (oX12_k hp263) rfl rfl rfl (r_ops (A := A) hp263 ) (pn_ic_ge rfl H.1 H.2.1 (fun c1 => (pv_iload_n rfl rfl   (pv_ireti rfl rfl (H.2.2.1 c1)))) (fun c1 => (pv_iload_n rfl rfl   (pn_iconst rfl (by decide)   (pn_ic_eq rfl (H.2.2.2 c1).1 (by decide) (fun c2 => (pv_iload_n rfl rfl   (pv_goto rfl (pv_istore_n rfl rfl   (pn_iinc rfl rfl rfl rfl   (pv_goto rfl ((H.2.2.2 c1).2.1 c2))))))) (fun c2 => (pv_aload_n rfl rfl   (pv_iload_n rfl rfl   (pv_iload_n rfl rfl   (match (r_amountOf (w := w) (p := l3) (A := A) (X := X) (d := d + 1) (G := G) (j := j) (cc := cc) hp263 ((H.2.2.2 c1).2.2 c2).1 ((H.2.2.2 c1).2.2 c2).2.1 ((H.2.2.2 c1).2.2 c2).2.2.1 ((H.2.2.2 c1).2.2 c2).2.2.2.1 ((H.2.2.2 c1).2.2 c2).2.2.2.2.1 ) with | ⟨A12, e3x53, h3⟩ => pv_virt rfl rfl rfl rfl rfl (oX12_k hp263) rfl rfl rfl e3x53 (pv_aload_n rfl rfl   (pv_iload_n rfl rfl   (pv_iload_n rfl rfl   (match (r_amountOf (w := w) (p := l2) (A := A12) (X := X) (d := d + 1) (G := G) (j := j) (cc := cc) hp263 (((H.2.2.2 c1).2.2 c2).2.2.2.2.2 A12 h3).1 (((H.2.2.2 c1).2.2 c2).2.2.2.2.2 A12 h3).2.1 (((H.2.2.2 c1).2.2 c2).2.2.2.2.2 A12 h3).2.2.1 (((H.2.2.2 c1).2.2 c2).2.2.2.2.2 A12 h3).2.2.2.1 (((H.2.2.2 c1).2.2 c2).2.2.2.2.2 A12 h3).2.2.2.2.1 ) with | ⟨A13, e3x59, h4⟩ => pv_virt rfl rfl rfl rfl rfl (oX12_k hp263) rfl rfl rfl e3x59 (pn_ic_le rfl ((((H.2.2.2 c1).2.2 c2).2.2.2.2.2 A12 h3).2.2.2.2.2 A13 h4).1 ((((H.2.2.2 c1).2.2 c2).2.2.2.2.2 A12 h3).2.2.2.2.2 A13 h4).2.1 (fun c5 => (pv_iload_n rfl rfl   (pv_istore_n rfl rfl   (pn_iinc rfl rfl rfl rfl   (pv_goto rfl (((((H.2.2.2 c1).2.2 c2).2.2.2.2.2 A12 h3).2.2.2.2.2 A13 h4).2.2.1 c5)))))) (fun c5 => (pv_iload_n rfl rfl   (pv_goto rfl (pv_istore_n rfl rfl   (pn_iinc rfl rfl rfl rfl   (pv_goto rfl (((((H.2.2.2 c1).2.2 c2).2.2.2.2.2 A12 h3).2.2.2.2.2 A13 h4).2.2.2 c5)))))))))))))))))))))))))
/-- behind the traits' laying -/
def moQ (A B : Nat → Nat → Nat) (jj : Nat → Nat → Int64) : Prop := B 264 = A 264 ∧ (∀ p, p < A 264 0 → B 273 p = tbF (A 264) p) ∧ frQ A B ∧ TrJ B jj ∧ B 263 0 = 0
theorem moQ_s {A B C : Nat → Nat → Nat} {jj : Nat → Nat → Int64} (h : moQ A B jj) (h2 : ∀ q, q ≠ 275 → C q = B q) : moQ A C jj := by
  obtain ⟨a, b, c, e, f⟩ := h
  obtain ⟨x, y, z⟩ := q275 h2 c e f
  exact ⟨by rw [h2 264 (by decide), a], fun p hp => by rw [h2 273 (by decide), b p hp], x, y, z⟩
theorem moQ_o {A B : Nat → Nat → Nat} {jj : Nat → Nat → Int64} (p0 : okW (A 264)) (h : moQ A B jj) : okW (B 264) := by rw [h.1]; exact p0
theorem moQ_l {A B : Nat → Nat → Nat} {jj : Nat → Nat → Int64} (p0 : okLw (A 264)) (h : moQ A B jj) : okLw (B 264) := by rw [h.1]; exact p0
theorem moQ_t {A B : Nat → Nat → Nat} {jj : Nat → Nat → Int64} (h : moQ A B jj) {p : Nat} (hp : p < 8) : B 273 p < 16 := h.2.2.2.1.2 p hp
theorem moQ_a {A B : Nat → Nat → Nat} {jj : Nat → Nat → Int64} (h : moQ A B jj) {w p : Nat} (hp : p < A 264 0) : amF (B 264) (B 273) w p = amF (A 264) (tbF (A 264)) w p := by rw [h.1]; exact amF_T (h.2.1 p hp)
theorem moQ_of {A C : Nat → Nat → Nat} {j jj : Nat → Nat → Int64} (h : frT (gu A 263 0 0) C ∧ (∀ q, q ≠ 274 → jj q = j q) ∧ TrJ C jj ∧ ∀ p, p < A 264 0 → C 273 p = tbF (A 264) p) : moQ A C jj := by
  obtain ⟨f1, f2, f3, f4⟩ := h
  exact ⟨(frT_264 f1).trans rfl, f4, frQ_T (frQ_0 (frQ_rf _)) f1, f3, (f1.2 0 (by omega)).trans rfl⟩
theorem r_most_p {X : gv_X} {d : Nat} {G : gv_Sh} {A : Nat → Nat → Nat} {j : Nat → Nat → Int64} {cc : gv_Rs} {P : gv_O × gv_S → Prop} {w : Nat} (hp263 : oX12 G 263) (p0 : okW (A 264)) (p1 : okLw (A 264)) (p2 : TrJ A j) (p3 : w < 4294967296) (hP : ∀ A1 : Nat → Nat → Nat, ∀ j1 : Nat → Nat → Int64, (frQ A A1) ∧ (TrJ A1 j1) ∧ (A1 263 0 = (spMost (A 264) w).1) → P (.inl (some (.int (nI (spMost (A 264) w).2))), (G, (mI A1, j1), cc))) : EvP X (d + 8) gvm_341 0 (gv_enter [.ref 263, .int (nI w)] 4) [] (G, (mI A, j), cc) P := by
  have hn := okW_n p0
  have L : w ≤ 2 → ∀ i p B jj, i + p = A 264 0 → moQ A B jj → EvP X (d + 8) gvm_341 37 [some (.ref 263), some (.int (nI w)), some (.int (nI (msN (A 264) (tbF (A 264)) w p))), some (.int (nI p))] [] (G, (mI B, jj), cc) P := by
    intro hw
    have es : spMost (A 264) w = (0, (msN (A 264) (tbF (A 264)) w (A 264 0))) := by unfold spMost; rw [if_neg (by omega)]
    rw [es] at hP
    intro i
    induction i with
    | zero =>
      intro p B jj hi hB
      obtain rfl : p = A 264 0 := by omega
      have b0 : B 264 0 = A 264 0 := by rw [hB.1]
      exact w341_37 hp263 ⟨by omega, by omega, fun c1 => hP B jj ⟨hB.2.2.1, hB.2.2.2.1, hB.2.2.2.2⟩, fun c1 => by omega⟩
    | succ i ih =>
      intro p B jj hi hB
      have b0 : B 264 0 = A 264 0 := by rw [hB.1]
      have ml := msN_lt (R := A 264) (T := tbF (A 264)) (w := w) p
      have hs : (msN (A 264) (tbF (A 264)) w (p + 1)) = if (msN (A 264) (tbF (A 264)) w p) = 4294967295 ∨ amF (A 264) (tbF (A 264)) w (msN (A 264) (tbF (A 264)) w p) < amF (A 264) (tbF (A 264)) w p then p else (msN (A 264) (tbF (A 264)) w p) := rfl
      have a1 := amF_le (T := tbF (A 264)) p0 p1 (w := w) (p := p) (by omega)
      refine w341_37 hp263  ⟨by (first | omega | exact moQ_o p0 hB | exact moQ_l p1 hB | exact moQ_t hB (by omega) | exact moQ_o p0 (moQ_s hB h3) | exact moQ_l p1 (moQ_s hB h3) | exact moQ_t (moQ_s hB h3) (by omega) | (rw [moQ_a hB (by omega)]; omega) | (rw [moQ_a (moQ_s hB h3) (by omega)]; have := amF_le (T := tbF (A 264)) p0 p1 (w := w) (p := msN (A 264) (tbF (A 264)) w p) (by omega); omega)), ⟨by (first | omega | exact moQ_o p0 hB | exact moQ_l p1 hB | exact moQ_t hB (by omega) | exact moQ_o p0 (moQ_s hB h3) | exact moQ_l p1 (moQ_s hB h3) | exact moQ_t (moQ_s hB h3) (by omega) | (rw [moQ_a hB (by omega)]; omega) | (rw [moQ_a (moQ_s hB h3) (by omega)]; have := amF_le (T := tbF (A 264)) p0 p1 (w := w) (p := msN (A 264) (tbF (A 264)) w p) (by omega); omega)), ⟨fun c1 => ?_, fun c1 => ⟨by (first | omega | exact moQ_o p0 hB | exact moQ_l p1 hB | exact moQ_t hB (by omega) | exact moQ_o p0 (moQ_s hB h3) | exact moQ_l p1 (moQ_s hB h3) | exact moQ_t (moQ_s hB h3) (by omega) | (rw [moQ_a hB (by omega)]; omega) | (rw [moQ_a (moQ_s hB h3) (by omega)]; have := amF_le (T := tbF (A 264)) p0 p1 (w := w) (p := msN (A 264) (tbF (A 264)) w p) (by omega); omega)), ⟨fun c2 => ?_, fun c2 => ⟨by (first | omega | exact moQ_o p0 hB | exact moQ_l p1 hB | exact moQ_t hB (by omega) | exact moQ_o p0 (moQ_s hB h3) | exact moQ_l p1 (moQ_s hB h3) | exact moQ_t (moQ_s hB h3) (by omega) | (rw [moQ_a hB (by omega)]; omega) | (rw [moQ_a (moQ_s hB h3) (by omega)]; have := amF_le (T := tbF (A 264)) p0 p1 (w := w) (p := msN (A 264) (tbF (A 264)) w p) (by omega); omega)), ⟨by (first | omega | exact moQ_o p0 hB | exact moQ_l p1 hB | exact moQ_t hB (by omega) | exact moQ_o p0 (moQ_s hB h3) | exact moQ_l p1 (moQ_s hB h3) | exact moQ_t (moQ_s hB h3) (by omega) | (rw [moQ_a hB (by omega)]; omega) | (rw [moQ_a (moQ_s hB h3) (by omega)]; have := amF_le (T := tbF (A 264)) p0 p1 (w := w) (p := msN (A 264) (tbF (A 264)) w p) (by omega); omega)), ⟨by (first | omega | exact moQ_o p0 hB | exact moQ_l p1 hB | exact moQ_t hB (by omega) | exact moQ_o p0 (moQ_s hB h3) | exact moQ_l p1 (moQ_s hB h3) | exact moQ_t (moQ_s hB h3) (by omega) | (rw [moQ_a hB (by omega)]; omega) | (rw [moQ_a (moQ_s hB h3) (by omega)]; have := amF_le (T := tbF (A 264)) p0 p1 (w := w) (p := msN (A 264) (tbF (A 264)) w p) (by omega); omega)), ⟨by (first | omega | exact moQ_o p0 hB | exact moQ_l p1 hB | exact moQ_t hB (by omega) | exact moQ_o p0 (moQ_s hB h3) | exact moQ_l p1 (moQ_s hB h3) | exact moQ_t (moQ_s hB h3) (by omega) | (rw [moQ_a hB (by omega)]; omega) | (rw [moQ_a (moQ_s hB h3) (by omega)]; have := amF_le (T := tbF (A 264)) p0 p1 (w := w) (p := msN (A 264) (tbF (A 264)) w p) (by omega); omega)), ⟨by (first | omega | exact moQ_o p0 hB | exact moQ_l p1 hB | exact moQ_t hB (by omega) | exact moQ_o p0 (moQ_s hB h3) | exact moQ_l p1 (moQ_s hB h3) | exact moQ_t (moQ_s hB h3) (by omega) | (rw [moQ_a hB (by omega)]; omega) | (rw [moQ_a (moQ_s hB h3) (by omega)]; have := amF_le (T := tbF (A 264)) p0 p1 (w := w) (p := msN (A 264) (tbF (A 264)) w p) (by omega); omega)), (fun A12 h3 => ⟨by (first | omega | exact moQ_o p0 hB | exact moQ_l p1 hB | exact moQ_t hB (by omega) | exact moQ_o p0 (moQ_s hB h3) | exact moQ_l p1 (moQ_s hB h3) | exact moQ_t (moQ_s hB h3) (by omega) | (rw [moQ_a hB (by omega)]; omega) | (rw [moQ_a (moQ_s hB h3) (by omega)]; have := amF_le (T := tbF (A 264)) p0 p1 (w := w) (p := msN (A 264) (tbF (A 264)) w p) (by omega); omega)), ⟨by (first | omega | exact moQ_o p0 hB | exact moQ_l p1 hB | exact moQ_t hB (by omega) | exact moQ_o p0 (moQ_s hB h3) | exact moQ_l p1 (moQ_s hB h3) | exact moQ_t (moQ_s hB h3) (by omega) | (rw [moQ_a hB (by omega)]; omega) | (rw [moQ_a (moQ_s hB h3) (by omega)]; have := amF_le (T := tbF (A 264)) p0 p1 (w := w) (p := msN (A 264) (tbF (A 264)) w p) (by omega); omega)), ⟨by (first | omega | exact moQ_o p0 hB | exact moQ_l p1 hB | exact moQ_t hB (by omega) | exact moQ_o p0 (moQ_s hB h3) | exact moQ_l p1 (moQ_s hB h3) | exact moQ_t (moQ_s hB h3) (by omega) | (rw [moQ_a hB (by omega)]; omega) | (rw [moQ_a (moQ_s hB h3) (by omega)]; have := amF_le (T := tbF (A 264)) p0 p1 (w := w) (p := msN (A 264) (tbF (A 264)) w p) (by omega); omega)), ⟨by (first | omega | exact moQ_o p0 hB | exact moQ_l p1 hB | exact moQ_t hB (by omega) | exact moQ_o p0 (moQ_s hB h3) | exact moQ_l p1 (moQ_s hB h3) | exact moQ_t (moQ_s hB h3) (by omega) | (rw [moQ_a hB (by omega)]; omega) | (rw [moQ_a (moQ_s hB h3) (by omega)]; have := amF_le (T := tbF (A 264)) p0 p1 (w := w) (p := msN (A 264) (tbF (A 264)) w p) (by omega); omega)), ⟨by (first | omega | exact moQ_o p0 hB | exact moQ_l p1 hB | exact moQ_t hB (by omega) | exact moQ_o p0 (moQ_s hB h3) | exact moQ_l p1 (moQ_s hB h3) | exact moQ_t (moQ_s hB h3) (by omega) | (rw [moQ_a hB (by omega)]; omega) | (rw [moQ_a (moQ_s hB h3) (by omega)]; have := amF_le (T := tbF (A 264)) p0 p1 (w := w) (p := msN (A 264) (tbF (A 264)) w p) (by omega); omega)), (fun A13 h4 => ⟨by (first | omega | exact moQ_o p0 hB | exact moQ_l p1 hB | exact moQ_t hB (by omega) | exact moQ_o p0 (moQ_s hB h3) | exact moQ_l p1 (moQ_s hB h3) | exact moQ_t (moQ_s hB h3) (by omega) | (rw [moQ_a hB (by omega)]; omega) | (rw [moQ_a (moQ_s hB h3) (by omega)]; have := amF_le (T := tbF (A 264)) p0 p1 (w := w) (p := msN (A 264) (tbF (A 264)) w p) (by omega); omega)), ⟨by (first | omega | exact moQ_o p0 hB | exact moQ_l p1 hB | exact moQ_t hB (by omega) | exact moQ_o p0 (moQ_s hB h3) | exact moQ_l p1 (moQ_s hB h3) | exact moQ_t (moQ_s hB h3) (by omega) | (rw [moQ_a hB (by omega)]; omega) | (rw [moQ_a (moQ_s hB h3) (by omega)]; have := amF_le (T := tbF (A 264)) p0 p1 (w := w) (p := msN (A 264) (tbF (A 264)) w p) (by omega); omega)), ⟨fun c5 => ?_, fun c5 => ?_⟩⟩⟩)⟩⟩⟩⟩⟩)⟩⟩⟩⟩⟩⟩⟩⟩⟩⟩
      · omega
      · have := ih (p + 1) _ jj (by omega) hB
        rw [hs, if_pos (by omega)] at this
        exact this
      · rw [moQ_a hB (by omega), moQ_a (moQ_s hB h3) (by omega)] at c5
        have := ih (p + 1) _ jj (by omega) (moQ_s (moQ_s hB h3) h4)
        rw [hs, if_neg (by omega)] at this
        exact this
      · rw [moQ_a hB (by omega), moQ_a (moQ_s hB h3) (by omega)] at c5
        have := ih (p + 1) _ jj (by omega) (moQ_s (moQ_s hB h3) h4)
        rw [hs, if_pos (by omega)] at this
        exact this
  refine w341 hp263  ⟨by (first | omega | assumption), ⟨fun c1 => ⟨by (first | omega | assumption), ⟨by (first | omega | assumption), (fun A11 j11 h3 => ?_)⟩⟩, fun c1 => ?_⟩⟩
  · exact w341_33 hp263 (L (by omega) (A 264 0) 0 A11 j11 (by omega) (moQ_of h3))
  · exact qn (hP _ _ ⟨frQ_0 (frQ_0 (frQ_rf _)), TrJ_of p2 rfl rfl, by rw [gu_hit]; unfold spMost; rw [if_pos (by omega)]⟩) (by unfold spMost; rw [if_pos (by omega)])
theorem r_most {X : gv_X} {d : Nat} {G : gv_Sh} {A : Nat → Nat → Nat} {j : Nat → Nat → Int64} {cc : gv_Rs} {w : Nat} (hp263 : oX12 G 263) (p0 : okW (A 264)) (p1 : okLw (A 264)) (p2 : TrJ A j) (p3 : w < 4294967296) : ∃ A1 : Nat → Nat → Nat, ∃ j1 : Nat → Nat → Int64, Ev X (d + 8) gvm_341 0 (gv_enter [.ref 263, .int (nI w)] 4) [] (G, (mI A, j), cc) (.inl (some (.int (nI (spMost (A 264) w).2))), (G, (mI A1, j1), cc)) ∧ (frQ A A1) ∧ (TrJ A1 j1) ∧ (A1 263 0 = (spMost (A 264) w).1) := by
  obtain ⟨_, h, A1, j1, rfl, hp⟩ := r_most_p (X := X) (d := d) (G := G) (A := A) (j := j) (cc := cc) (w := w) (P := fun r => ∃ A1 : Nat → Nat → Nat, ∃ j1 : Nat → Nat → Int64, r = (.inl (some (.int (nI (spMost (A 264) w).2))), (G, (mI A1, j1), cc)) ∧ (frQ A A1) ∧ (TrJ A1 j1) ∧ (A1 263 0 = (spMost (A 264) w).1)) hp263 p0 p1 p2 p3 (fun A1 j1 h => ⟨A1, j1, rfl, h⟩)
  exact ⟨A1, j1, h, hp⟩
theorem w339 {X : gv_X} {d : Nat} {G : gv_Sh} {A : Nat → Nat → Nat} {j : Nat → Nat → Int64} {cc : gv_Rs} {P : gv_O × gv_S → Prop} {n : Nat} {k : Nat} (hp263 : oX12 G 263) (H : (n < 4294967296) ∧ (((¬ (n ≤ 5)) → P (.inl (some (.int (nI 0))), (G, (mI (gu (gu A 263 0 0) 263 0 1), j), cc))) ∧ ((n ≤ 5) → (k < 4294967296) ∧ (((k ≤ 5) → EvP X (d + 1) gvm_339 43 [some (.ref 263), some (.int (nI n)), some (.int (nI k)), some (.long (Int64.ofNat 1)), none, some (.int (nI 0)), none, none] [] (G, (mI (gu A 263 0 0), j), cc) P) ∧ ((¬ (k ≤ 5)) → P (.inl (some (.int (nI 0))), (G, (mI (gu (gu A 263 0 0) 263 0 1), j), cc))))))) : EvP X (d + 1) gvm_339 0 (gv_enter [.ref 263, .int (nI n), .int (nI k)] 8) [] (G, (mI A, j), cc) P :=
  (pv_aload_n rfl rfl   (pn_iconst rfl rfl   (pn_putI rfl rfl (oX12_k hp263)   (pv_aload_n rfl rfl   (pv_iload_n rfl rfl   (pn_iconst rfl rfl   (pn_iconst rfl rfl   (pv_stat rfl rfl rfl rfl rfl rfl rfl rfl (r_in0 (v := n) (h := 5) H.1 (by decide)) (pv_if_eq_dc rfl  (fun c1 => (pn_iconst rfl rfl   (pv_goto rfl (pn_iconst rfl rfl   (pv_virt rfl rfl rfl rfl rfl (oX12_k hp263) rfl rfl rfl (r_thr_t (b := true) (c := 1) (A := (gu A 263 0 0)) hp263 rfl) (pn_if_eq rfl (by decide) (fun e => absurd e (by decide)) (fun _ => (pn_iconst rfl rfl   (pv_ireti rfl rfl (H.2.1 c1)))))))))) (fun c1 => (pv_iload_n rfl rfl   (pn_iconst rfl rfl   (pn_iconst rfl rfl   (pv_stat rfl rfl rfl rfl rfl rfl rfl rfl (r_in0 (v := k) (h := 5) (H.2.2 c1).1 (by decide)) (pv_if_ne_dc rfl  (fun c3 => (pn_iconst rfl rfl   (pn_iconst rfl rfl   (pv_virt rfl rfl rfl rfl rfl (oX12_k hp263) rfl rfl rfl (r_thr_f (b := false) (c := 1) (A := (gu A 263 0 0)) hp263 rfl) (pn_if_eq rfl (by decide) (fun _ => (pv_lconst rfl   (pv_lstore_n rfl rfl   (pn_iconst rfl rfl   (pv_istore rfl rfl   ((H.2.2 c1).2.1 c3)))))) (fun e => absurd e (by decide))))))) (fun c3 => (pn_iconst rfl rfl   (pv_goto rfl (pn_iconst rfl rfl   (pv_virt rfl rfl rfl rfl rfl (oX12_k hp263) rfl rfl rfl (r_thr_t (b := true) (c := 1) (A := (gu A 263 0 0)) hp263 rfl) (pn_if_eq rfl (by decide) (fun e => absurd e (by decide)) (fun _ => (pn_iconst rfl rfl   (pv_ireti rfl rfl ((H.2.2 c1).2.2 c3)))))))))))))))))))))))))
theorem w339_43 {X : gv_X} {d : Nat} {G : gv_Sh} {A : Nat → Nat → Nat} {j : Nat → Nat → Int64} {cc : gv_Rs} {P : gv_O × gv_S → Prop} {n : Nat} {k : Nat} {l3 : Int64} {l5 : Nat} (hp263 : oX12 G 263) (H : (l5 < 2147483648) ∧ (((5 < l5) → EvP X (d + 1) gvm_339 75 [some (.ref 263), some (.int (nI n)), some (.int (nI k)), some (.long l3), none, some (.int (nI 0)), none, none] [] (G, (mI A, j), cc) P) ∧ ((l5 ≤ 5) → (l5 < 4294967296) ∧ (((¬ l5 = 0) → (l5 < 6) ∧ (EvP X (d + 1) gvm_339 43 [some (.ref 263), some (.int (nI n)), some (.int (nI k)), some (.long l3), none, some (.int (nI (l5 + 1))), none, none] [] (G, (mI A, (gu j 278 l5 (Int64.ofNat 0))), cc) P)) ∧ ((l5 = 0) → (l5 < 6) ∧ (EvP X (d + 1) gvm_339 43 [some (.ref 263), some (.int (nI n)), some (.int (nI k)), some (.long l3), none, some (.int (nI (l5 + 1))), none, none] [] (G, (mI A, (gu j 278 l5 (Int64.ofNat 1))), cc) P)))))) : EvP X (d + 1) gvm_339 43 [some (.ref 263), some (.int (nI n)), some (.int (nI k)), some (.long l3), none, some (.int (nI l5)), none, none] [] (G, (mI A, j), cc) P :=
  (pv_iload rfl rfl   (pn_iconst rfl rfl   (pn_ic_gt rfl H.1 (by decide) (fun c1 => (pn_iconst rfl rfl   (pv_istore rfl rfl   (H.2.1 c1)))) (fun c1 => (pv_aload_n rfl rfl   (pv_getP rfl rfl (oX12_k hp263) (oX12_31 hp263)   (pv_iload rfl rfl   (pv_iload rfl rfl   (pn_if_ne rfl (H.2.2 c1).1 (fun c2 => (pv_lconst rfl   (pn_last rfl (oX12_31c hp263) (by decide) ((H.2.2 c1).2.1 c2).1  (pn_iinc rfl rfl rfl rfl   (pv_goto rfl ((H.2.2 c1).2.1 c2).2))))) (fun c2 => (pv_lconst rfl   (pv_goto rfl (pn_last rfl (oX12_31c hp263) (by decide) ((H.2.2 c1).2.2 c2).1  (pn_iinc rfl rfl rfl rfl   (pv_goto rfl ((H.2.2 c1).2.2 c2).2)))))))))))))))
theorem w339_75 {X : gv_X} {d : Nat} {G : gv_Sh} {A : Nat → Nat → Nat} {j : Nat → Nat → Int64} {cc : gv_Rs} {P : gv_O × gv_S → Prop} {n : Nat} {k : Nat} {l3 : Int64} {l5 : Nat} {l6 : Option Value} (hp263 : oX12 G 263) (H : (l5 < 2147483648) ∧ ((n < 2147483648) ∧ (((n ≤ l5) → EvP X (d + 1) gvm_339 167 [some (.ref 263), some (.int (nI n)), some (.int (nI k)), some (.long l3), none, some (.long (Int64.ofNat 0)), none, some (.int (nI k))] [] (G, (mI A, j), cc) P) ∧ ((l5 < n) → EvP X (d + 1) gvm_339 84 [some (.ref 263), some (.int (nI n)), some (.int (nI k)), some (.long l3), none, some (.int (nI l5)), some (.int (nI 5)), none] [] (G, (mI A, j), cc) P)))) : EvP X (d + 1) gvm_339 75 [some (.ref 263), some (.int (nI n)), some (.int (nI k)), some (.long l3), none, some (.int (nI l5)), l6, none] [] (G, (mI A, j), cc) P :=
  (pv_iload rfl rfl   (pv_iload_n rfl rfl   (pn_ic_ge rfl H.1 H.2.1 (fun c1 => (pv_lconst rfl   (pv_lstore rfl rfl   (pv_iload_n rfl rfl   (pv_istore rfl rfl   (H.2.2.1 c1)))))) (fun c1 => (pn_iconst rfl rfl   (pv_istore rfl rfl   (H.2.2.2 c1)))))))
theorem w339_84 {X : gv_X} {d : Nat} {G : gv_Sh} {A : Nat → Nat → Nat} {j : Nat → Nat → Int64} {cc : gv_Rs} {P : gv_O × gv_S → Prop} {n : Nat} {k : Nat} {l3 : Int64} {l5 : Nat} {l6 : Nat} (hp263 : oX12 G 263) (H : (l6 < 4294967296) ∧ (((2147483648 ≤ l6) → EvP X (d + 1) gvm_339 75 [some (.ref 263), some (.int (nI n)), some (.int (nI k)), some (.long (l3 * (Int64.ofNat 100))), none, some (.int (nI (l5 + 1))), some (.int (nI l6)), none] [] (G, (mI A, j), cc) P) ∧ ((l6 < 2147483648) → (l6 < 6) ∧ (((A 264 7) ≤ 100) ∧ ((l6 < 4294967296) ∧ (((¬ l6 = 0) → (1 ≤ l6) ∧ (((l6 - 1) < 6) ∧ ((l6 < 6) ∧ (EvP X (d + 1) gvm_339 84 [some (.ref 263), some (.int (nI n)), some (.int (nI k)), some (.long l3), none, some (.int (nI l5)), some (.int (nI ((l6 + 4294967296 - 1) % 4294967296))), none] [] (G, (mI A, (gu j 278 l6 (((j 278 l6) * (Int32.toInt64 (nI (100 - (A 264 7))))) + ((j 278 (l6 - 1)) * (Int32.toInt64 (nI (A 264 7))))))), cc) P)))) ∧ ((l6 = 0) → (l6 < 6) ∧ (EvP X (d + 1) gvm_339 84 [some (.ref 263), some (.int (nI n)), some (.int (nI k)), some (.long l3), none, some (.int (nI l5)), some (.int (nI ((l6 + 4294967296 - 1) % 4294967296))), none] [] (G, (mI A, (gu j 278 l6 (((j 278 l6) * (Int32.toInt64 (nI (100 - (A 264 7))))) + (Int64.ofNat 0)))), cc) P)))))))) : EvP X (d + 1) gvm_339 84 [some (.ref 263), some (.int (nI n)), some (.int (nI k)), some (.long l3), none, some (.int (nI l5)), some (.int (nI l6)), none] [] (G, (mI A, j), cc) P :=
  (pv_iload rfl rfl   (pn_if_lt rfl H.1 (fun c1 => (pv_lload_n rfl rfl   (pv_ldc2 rfl   (pv_lmul rfl   (pv_lstore_n rfl rfl   (pn_iinc rfl rfl rfl rfl   (pv_goto rfl (H.2.1 c1)))))))) (fun c1 => (pv_aload_n rfl rfl   (pv_getP rfl rfl (oX12_k hp263) (oX12_31 hp263)   (pv_iload rfl rfl   (pv_aload_n rfl rfl   (pv_getP rfl rfl (oX12_k hp263) (oX12_31 hp263)   (pv_iload rfl rfl   (pn_lald rfl (oX12_31c hp263) (by decide) (H.2.2 c1).1  (pn_bipush rfl rfl   (pv_aload_n rfl rfl   (pv_getP rfl rfl (oX12_k hp263) (oX12_1 hp263)   (pn_bipush rfl rfl   (pn_iald rfl (oX12_1c hp263) (by decide) (by decide) rfl (pn_isub rfl (H.2.2 c1).2.1  (pv_i2l rfl   (pv_lmul rfl   (pv_iload rfl rfl   (pn_if_ne rfl (H.2.2 c1).2.2.1 (fun c2 => (pv_aload_n rfl rfl   (pv_getP rfl rfl (oX12_k hp263) (oX12_31 hp263)   (pv_iload rfl rfl   (pn_iconst rfl rfl   (pn_isub rfl ((H.2.2 c1).2.2.2.1 c2).1  (pn_lald rfl (oX12_31c hp263) (by decide) ((H.2.2 c1).2.2.2.1 c2).2.1  (pv_aload_n rfl rfl   (pv_getP rfl rfl (oX12_k hp263) (oX12_1 hp263)   (pn_bipush rfl rfl   (pn_iald rfl (oX12_1c hp263) (by decide) (by decide) rfl (pv_i2l rfl   (pv_lmul rfl   (pv_ladd rfl   (pn_last rfl (oX12_31c hp263) (by decide) ((H.2.2 c1).2.2.2.1 c2).2.2.1  (pn_idecw rfl (by decide) (by decide) rfl rfl (pv_goto rfl ((H.2.2 c1).2.2.2.1 c2).2.2.2))))))))))))))))) (fun c2 => (pv_lconst rfl   (pv_goto rfl (pv_ladd rfl   (pn_last rfl (oX12_31c hp263) (by decide) ((H.2.2 c1).2.2.2.2 c2).1  (pn_idecw rfl (by decide) (by decide) rfl rfl (pv_goto rfl ((H.2.2 c1).2.2.2.2 c2).2)))))))))))))))))))))))))))
theorem w339_167 {X : gv_X} {d : Nat} {G : gv_Sh} {A : Nat → Nat → Nat} {j : Nat → Nat → Int64} {cc : gv_Rs} {P : gv_O × gv_S → Prop} {n : Nat} {k : Nat} {l3 : Int64} {l5 : Int64} {l7 : Nat} (hp263 : oX12 G 263) (H : (l7 < 2147483648) ∧ (((5 < l7) → (¬ l3 = 0) ∧ (P (.inl (some (.int (Int64.toInt32 (((Int64.ofNat 10000) * l5) / l3)))), (G, (mI A, j), cc)))) ∧ ((l7 ≤ 5) → (l7 < 6) ∧ (EvP X (d + 1) gvm_339 167 [some (.ref 263), some (.int (nI n)), some (.int (nI k)), some (.long l3), none, some (.long (l5 + (j 278 l7))), none, some (.int (nI (l7 + 1)))] [] (G, (mI A, j), cc) P)))) : EvP X (d + 1) gvm_339 167 [some (.ref 263), some (.int (nI n)), some (.int (nI k)), some (.long l3), none, some (.long l5), none, some (.int (nI l7))] [] (G, (mI A, j), cc) P :=
  (pv_iload rfl rfl   (pn_iconst rfl rfl   (pn_ic_gt rfl H.1 (by decide) (fun c1 => (pv_ldc2 rfl   (pv_lload rfl rfl   (pv_lmul rfl   (pv_lload_n rfl rfl   (pv_ldiv rfl (H.2.1 c1).1 (pv_l2i rfl   (pv_ireti rfl rfl (H.2.1 c1).2)))))))) (fun c1 => (pv_lload rfl rfl   (pv_aload_n rfl rfl   (pv_getP rfl rfl (oX12_k hp263) (oX12_31 hp263)   (pv_iload rfl rfl   (pn_lald rfl (oX12_31c hp263) (by decide) (H.2.2 c1).1  (pv_ladd rfl   (pv_lstore rfl rfl   (pn_iinc rfl rfl rfl rfl   (pv_goto rfl (H.2.2 c1).2)))))))))))))
theorem wy_s (a t i : Nat) : wyN a (t + 1) i = wyN a t i * (100 - a) + (if i = 0 then 0 else wyN a t (i - 1) * a) := rfl
theorem r_odds_p {X : gv_X} {d : Nat} {G : gv_Sh} {A : Nat → Nat → Nat} {j : Nat → Nat → Int64} {cc : gv_Rs} {P : gv_O × gv_S → Prop} {n : Nat} {k : Nat} (hp263 : oX12 G 263) (p0 : okW (A 264)) (p1 : TrJ A j) (p2 : n < 4294967296) (p3 : k < 4294967296) (hP : ∀ A1 : Nat → Nat → Nat, ∀ j1 : Nat → Nat → Int64, (frQ A A1) ∧ (TrJ A1 j1) ∧ (A1 263 0 = (spOdds (A 264) n k).1) → P (.inl (some (.int (nI (spOdds (A 264) n k).2))), (G, (mI A1, j1), cc))) : EvP X (d + 1) gvm_339 0 (gv_enter [.ref 263, .int (nI n), .int (nI k)] 8) [] (G, (mI A, j), cc) P := by
  have hn := okW_n p0
  have a7 : A 264 7 ≤ 100 := hn.2.2.2.2.2.2.2.2.1
  have S : n ≤ 5 → k ≤ 5 → ∀ jj, (∀ q, q ≠ 278 → jj q = j q) → (∀ x, x ≤ 5 → jj 278 x = lN (wyN (A 264 7) n x)) → ∀ i x acc, i + x = 6 → acc + suN (wyN (A 264 7) n) i x = suN (wyN (A 264 7) n) (6 - k) k → EvP X (d + 1) gvm_339 167 [some (.ref 263), some (.int (nI n)), some (.int (nI k)), some (.long (lN (100 ^ n))), none, some (.long (lN acc)), none, some (.int (nI x))] [] (G, (mI (gu A 263 0 0), jj), cc) P := by
    intro h5 hk jj j1 j2
    have es : spOdds (A 264) n k = (0, 10000 * suN (wyN (A 264 7) n) (6 - k) k / 100 ^ n) := by unfold spOdds; rw [if_neg (by omega)]
    rw [es] at hP
    have hle := of_decide_eq_true (wy_le (A 264 7) (by omega) n (by omega) k (by omega))
    have hp : 0 < 100 ^ n := Nat.pow_pos (by decide)
    have hp2 : 100 ^ n ≤ 100 ^ 5 := Nat.pow_le_pow_right (by decide) h5
    intro i
    induction i with
    | zero =>
      intro x acc hx hs
      have hs : acc = suN (wyN (A 264 7) n) (6 - k) k := hs
      refine w339_167 hp263 ⟨by omega, fun c1 => ⟨lN_ne (by omega) hp, ?_⟩, fun c1 => by omega⟩
      rw [hs, show Int64.ofNat 10000 = lN 10000 from rfl, lN_mul, lN_div (by omega) (by omega) hp, show Int64.toInt32 (lN (10000 * suN (wyN (A 264 7) n) (6 - k) k / 100 ^ n)) = nI (10000 * suN (wyN (A 264 7) n) (6 - k) k / 100 ^ n) from Int64.toInt32_ofNat']
      exact hP _ jj ⟨frQ_0 (frQ_rf _), TrJ_of p1 rfl (j1 274 (by decide)), gu_hit _ _ _ _⟩
    | succ i ih =>
      intro x acc hx hs
      have hs : acc + (wyN (A 264 7) n x + suN (wyN (A 264 7) n) i (x + 1)) = suN (wyN (A 264 7) n) (6 - k) k := hs
      refine w339_167 hp263 ⟨by omega, fun c1 => by omega, fun c1 => ⟨by omega, ?_⟩⟩
      rw [j2 x (by omega), lN_add]
      exact ih (x + 1) _ (by omega) (by omega)
  have Tl : n ≤ 5 → k ≤ 5 → ∀ i t jj l6, i + t = n → (∀ q, q ≠ 278 → jj q = j q) → (∀ x, x ≤ 5 → jj 278 x = lN (wyN (A 264 7) t x)) → EvP X (d + 1) gvm_339 75 [some (.ref 263), some (.int (nI n)), some (.int (nI k)), some (.long (lN (100 ^ t))), none, some (.int (nI t)), l6, none] [] (G, (mI (gu A 263 0 0), jj), cc) P := by
    intro h5 hk i
    induction i with
    | zero =>
      intro t jj l6 ht j1 j2
      obtain rfl : t = n := by omega
      refine w339_75 hp263 ⟨by omega, by omega, fun c1 => ?_, fun c1 => by omega⟩
      exact S h5 hk jj j1 j2 (6 - k) k 0 (by omega) (by omega)
    | succ i ih =>
      intro t jj l6 ht j1 j2
      have E : ∀ jd, (∀ q, q ≠ 278 → jd q = j q) → (∀ x, x ≤ 5 → jd 278 x = lN (wyN (A 264 7) (t + 1) x)) → EvP X (d + 1) gvm_339 84 [some (.ref 263), some (.int (nI n)), some (.int (nI k)), some (.long (lN (100 ^ t))), none, some (.int (nI t)), some (.int (nI 4294967295)), none] [] (G, (mI (gu A 263 0 0), jd), cc) P := by
        intro jd d1 d2
        refine w339_84 hp263 ⟨by decide, fun c1 => ?_, fun c1 => absurd c1 (by decide)⟩
        have := ih (t + 1) jd (some (.int (nI 4294967295))) (by omega) d1 d2
        rw [Nat.pow_succ, ← lN_mul] at this
        exact this
      have I : ∀ y, y ≤ 5 → ∀ jd, (∀ q, q ≠ 278 → jd q = j q) → (∀ x, x ≤ 5 → jd 278 x = lN (if y < x then wyN (A 264 7) (t + 1) x else wyN (A 264 7) t x)) → EvP X (d + 1) gvm_339 84 [some (.ref 263), some (.int (nI n)), some (.int (nI k)), some (.long (lN (100 ^ t))), none, some (.int (nI t)), some (.int (nI y)), none] [] (G, (mI (gu A 263 0 0), jd), cc) P := by
        intro y
        induction y with
        | zero =>
          intro hy jd d1 d2
          refine w339_84 hp263 ⟨by omega, fun c1 => by omega, fun c1 => ⟨by omega, by show A 264 7 ≤ 100; omega, by omega, fun c2 => absurd rfl c2, fun c2 => ⟨by omega, ?_⟩⟩⟩
          refine E _ (fun q hq => (gu_row hq).trans (d1 q hq)) (fun x hx => ?_)
          by_cases h0 : x = 0
          · subst h0
            rw [gu_hit, d2 0 (by omega), if_neg (by omega), wy_s, if_pos rfl]
            show lN _ * Int32.toInt64 (nI (100 - A 264 7)) + lN 0 = _
            rw [nI_l (by omega), lN_mul, lN_add]
          · rw [gu_k h0 rfl, d2 x hx, if_pos (by omega)]
        | succ y ihy =>
          intro hy jd d1 d2
          refine w339_84 hp263 ⟨by omega, fun c1 => by omega, fun c1 => ⟨by omega, by show A 264 7 ≤ 100; omega, by omega, fun c2 => ⟨by omega, by omega, by omega, ?_⟩, fun c2 => by omega⟩⟩
          rw [show (y + 1 + 4294967296 - 1) % 4294967296 = y by omega]
          refine ihy (by omega) _ (fun q hq => (gu_row hq).trans (d1 q hq)) (fun x hx => ?_)
          by_cases h0 : x = y + 1
          · subst h0
            rw [gu_hit, d2 (y + 1) (by omega), if_neg (by omega), d2 (y + 1 - 1) (by omega), if_neg (by omega), if_pos (by omega), wy_s, if_neg (by omega)]
            show lN _ * Int32.toInt64 (nI (100 - A 264 7)) + lN _ * Int32.toInt64 (nI (A 264 7)) = _
            rw [nI_l (by omega), nI_l (by omega), lN_mul, lN_mul, lN_add]
          · rw [gu_k h0 rfl, d2 x hx]
            by_cases h1 : y + 1 < x
            · rw [if_pos h1, if_pos (by omega)]
            · rw [if_neg h1, if_neg (by omega)]
      refine w339_75 hp263 ⟨by omega, by omega, fun c1 => by omega, fun c1 => I 5 (by omega) jj j1 (fun x hx => by rw [if_neg (by omega)]; exact j2 x hx)⟩
  have I0 : n ≤ 5 → k ≤ 5 → ∀ i x jj, i + x = 6 → (∀ q, q ≠ 278 → jj q = j q) → (∀ y, y < x → jj 278 y = lN (wyN (A 264 7) 0 y)) → EvP X (d + 1) gvm_339 43 [some (.ref 263), some (.int (nI n)), some (.int (nI k)), some (.long (Int64.ofNat 1)), none, some (.int (nI x)), none, none] [] (G, (mI (gu A 263 0 0), jj), cc) P := by
    intro h5 hk i
    induction i with
    | zero =>
      intro x jj hx j1 j2
      refine w339_43 hp263 ⟨by omega, fun c1 => ?_, fun c1 => by omega⟩
      exact Tl h5 hk n 0 jj none (by omega) j1 (fun y hy => j2 y (by omega))
    | succ i ih =>
      intro x jj hx j1 j2
      refine w339_43 hp263 ⟨by omega, fun c1 => by omega, fun c1 => ⟨by omega, fun c2 => ⟨by omega, ih (x + 1) _ (by omega) (fun q hq => (gu_row hq).trans (j1 q hq)) (fun y hy => ?_)⟩, fun c2 => ⟨by omega, ih (x + 1) _ (by omega) (fun q hq => (gu_row hq).trans (j1 q hq)) (fun y hy => ?_)⟩⟩⟩
      · by_cases h0 : y = x
        · subst h0
          rw [gu_hit, show wyN (A 264 7) 0 y = 0 from if_neg c2]
          rfl
        · rw [gu_k h0 rfl]; exact j2 y (by omega)
      · by_cases h0 : y = x
        · subst h0
          rw [gu_hit, show wyN (A 264 7) 0 y = 1 from if_pos c2]
          rfl
        · rw [gu_k h0 rfl]; exact j2 y (by omega)
  refine w339 hp263  ⟨by (first | omega | assumption), ⟨fun c1 => ?_, fun c1 => ⟨by (first | omega | assumption), ⟨fun c3 => ?_, fun c3 => ?_⟩⟩⟩⟩
  · exact qn (hP _ _ ⟨frQ_0 (frQ_0 (frQ_rf _)), TrJ_of p1 rfl rfl, by rw [gu_hit]; unfold spOdds; rw [if_pos (by omega)]⟩) (by unfold spOdds; rw [if_pos (by omega)])
  · exact I0 (by omega) (by omega) 6 0 j (by omega) (fun _ _ => rfl) (fun y hy => by omega)
  · exact qn (hP _ _ ⟨frQ_0 (frQ_0 (frQ_rf _)), TrJ_of p1 rfl rfl, by rw [gu_hit]; unfold spOdds; rw [if_pos (by omega)]⟩) (by unfold spOdds; rw [if_pos (by omega)])
theorem r_odds {X : gv_X} {d : Nat} {G : gv_Sh} {A : Nat → Nat → Nat} {j : Nat → Nat → Int64} {cc : gv_Rs} {n : Nat} {k : Nat} (hp263 : oX12 G 263) (p0 : okW (A 264)) (p1 : TrJ A j) (p2 : n < 4294967296) (p3 : k < 4294967296) : ∃ A1 : Nat → Nat → Nat, ∃ j1 : Nat → Nat → Int64, Ev X (d + 1) gvm_339 0 (gv_enter [.ref 263, .int (nI n), .int (nI k)] 8) [] (G, (mI A, j), cc) (.inl (some (.int (nI (spOdds (A 264) n k).2))), (G, (mI A1, j1), cc)) ∧ (frQ A A1) ∧ (TrJ A1 j1) ∧ (A1 263 0 = (spOdds (A 264) n k).1) := by
  obtain ⟨_, h, A1, j1, rfl, hp⟩ := r_odds_p (X := X) (d := d) (G := G) (A := A) (j := j) (cc := cc) (n := n) (k := k) (P := fun r => ∃ A1 : Nat → Nat → Nat, ∃ j1 : Nat → Nat → Int64, r = (.inl (some (.int (nI (spOdds (A 264) n k).2))), (G, (mI A1, j1), cc)) ∧ (frQ A A1) ∧ (TrJ A1 j1) ∧ (A1 263 0 = (spOdds (A 264) n k).1)) hp263 p0 p1 p2 p3 (fun A1 j1 h => ⟨A1, j1, rfl, h⟩)
  exact ⟨A1, j1, h, hp⟩
