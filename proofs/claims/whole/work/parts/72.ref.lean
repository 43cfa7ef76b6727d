/-! led, twins, ahead, trial, span -/
theorem gs_X {R : Nat → Nat} (h : okW R) (T : Nat → Nat) (calm : Bool) (n : Nat) : okW (gsR T calm n R) ∧ eqX R (gsR T calm n R) := ok_gs (T := T) (calm := calm) (n := n) h
theorem okW_sdS {R : Nat → Nat} (h : okW R) {v : Nat} (hv : v < 4294967296) : okW (seR R 11 v) ∧ eqX R (seR R 11 v) := by
  have e : ∀ i, i ≠ 11 → seR R 11 v i = R i := fun i hi => if_neg hi
  have e11 : seR R 11 v 11 = v := if_pos rfl
  have hn := okW_n h
  refine ⟨okW_C h (fun i hi => e i (by omega)) ?_ ?_ ?_ ?_ (fun k hk => ?_), fun i hi => e i (by omega)⟩
  · rw [e 8 (by decide)]; omega
  · rw [e 9 (by decide)]; omega
  · rw [e 10 (by decide)]; omega
  · rw [e11]; exact hv
  · rw [e _ (by omega)]; exact okW_l h hk
theorem tbF_X {R S : Nat → Nat} (h : okW R) (e : eqX R S) {p : Nat} (hp : p < 8) : tbF S p = tbF R p := by
  have ho := (okW_o h hp).1
  refine tbN_congr ⟨e _ (by omega), e _ (by omega), fun k hk => ?_⟩ 4
  rw [e _ (by omega)] at hk
  exact ⟨e _ (by omega), e _ (by omega)⟩
theorem gs_S {R S : Nat → Nat} (h : okW R) (e : eqX R S) (hS : okW S) (calm : Bool) (n : Nat) : gsR (tbF S) calm n S = gsR (tbF R) calm n S := by
  have h0 : S 0 = R 0 := e 0 (by omega)
  have hn := (okW_n h).1
  exact (gs_T hS (fun p hp => tbF_X h e (by omega))).1
theorem r_led_p {X : gv_X} {d : Nat} {G : gv_Sh} {A : Nat → Nat → Nat} {j : Nat → Nat → Int64} {cc : gv_Rs} {P : gv_O × gv_S → Prop} {op : Nat} {tk : Bool} (hp263 : oX12 G 263) (p0 : okW (A 264)) (p1 : TrJ A j) (p2 : op < 4294967296) (hP : ∀ A1 : Nat → Nat → Nat, (frQ A A1) ∧ (TrJ A1 j) ∧ (A1 263 0 = (spLed (A 264) op tk).1) → P (.inl (some (.int (nI (spLed (A 264) op tk).2))), (G, (mI A1, j), cc))) : EvP X (d + 2) gvm_349 0 (gv_enter [.ref 263, .int (nI op), .int (zo tk)] 6) [] (G, (mI A, j), cc) P := by
  have hn := okW_n p0
  have L : op < A 264 0 → ∀ i k n, i + k = A 264 10 → n + cntN (ldF (A 264) op) k = cntN (ldF (A 264) op) (A 264 10) → EvP X (d + 2) gvm_349 36 [some (.ref 263), some (.int (nI op)), some (.int (zo tk)), some (.int (nI n)), some (.int (nI (ldT (A 264) op i k))), some (.int (nI ((k + 4294967296 - 1) % 4294967296)))] [] (G, (mI (gu A 263 0 0), j), cc) P := by
    intro hop
    have es : (spLed (A 264) op tk) = (0, if tk = true then ldT (A 264) op (A 264 10) 0 else cntN (ldF (A 264) op) (A 264 10)) := by unfold spLed; rw [if_neg (by omega)]
    rw [es] at hP
    have fr : frQ A (gu A 263 0 0) ∧ TrJ (gu A 263 0 0) j ∧ gu A 263 0 0 263 0 = 0 := ⟨frQ_0 (frQ_rf _), TrJ_of p1 rfl rfl, gu_hit _ _ _ _⟩
    intro i k
    induction k generalizing i with
    | zero =>
      intro n hi hc
      refine w349_36 hp263 (show gu A 263 0 0 264 = A 264 from rfl) ⟨by decide, fun c1 => ⟨fun c2 => ?_, fun c2 => ?_⟩, fun c1 => absurd c1 (by decide)⟩
      · refine qn (hP _ fr) ?_
        show (if tk = true then _ else _) = _
        rw [if_neg (by rw [c2]; decide), ← hc]
        rfl
      · refine qn (hP _ fr) ?_
        show (if tk = true then _ else _) = _
        rw [if_pos c2, ← hi, Nat.add_zero]
    | succ k ih =>
      intro n hi hc
      have hl := okW_l p0 (k := 4 * k + 1) (by omega)
      rw [show 128 + (4 * k + 1) = 128 + 4 * k + 1 by omega] at hl
      have ek : (k + 1 + 4294967296 - 1) % 4294967296 = k := by omega
      rw [ek]
      have hs : cntN (ldF (A 264) op) (k + 1) = cntN (ldF (A 264) op) k + (ldF (A 264) op k).toNat := rfl
      have ht : lstN (ldF (A 264) op) (i + 1) k = if ldF (A 264) op k = true then k else lstN (ldF (A 264) op) i (k + 1) := rfl
      refine w349_36 hp263 (show gu A 263 0 0 264 = A 264 from rfl) ⟨by omega, fun c1 => by omega, fun c1 => ⟨by omega, by omega, by omega, fun c3 => ⟨by omega, ?_⟩, fun c3 => ?_⟩⟩
      · have ef : ldF (A 264) op k = true := decide_eq_true c3
        have eT : ldT (A 264) op (i + 1) k = A 264 (128 + 4 * k + 0) := by
          unfold ldT
          rw [ht, if_pos ef, if_neg (by omega)]
        have := ih (i + 1) (n + 1) (by omega) (by rw [hs, ef] at hc; show n + 1 + _ = _; rw [← hc]; show _ = n + (_ + 1); omega)
        rw [eT] at this
        exact this
      · have ef : ldF (A 264) op k = false := decide_eq_false c3
        have eT : ldT (A 264) op (i + 1) k = ldT (A 264) op i (k + 1) := by
          have ht2 : lstN (ldF (A 264) op) (i + 1) k = lstN (ldF (A 264) op) i (k + 1) := by rw [ht, if_neg (by rw [ef]; decide)]
          unfold ldT
          rw [ht2, show k + (i + 1) = k + 1 + i by omega]
        have := ih (i + 1) n (by omega) (by rw [hs, ef] at hc; exact hc)
        rw [eT] at this
        exact this
  refine w349 hp263 rfl  ⟨by (first | omega | assumption), ⟨by (first | omega | assumption), ⟨fun c1 => ?_, fun c1 => ?_⟩⟩⟩
  · exact qn (hP _ ⟨frQ_0 (frQ_0 (frQ_rf _)), TrJ_of p1 rfl rfl, by rw [gu_hit]; unfold spLed; rw [if_pos c1]⟩) (by unfold spLed; rw [if_pos c1])
  · have e := L (by omega) 0 (A 264 10) 0 (by omega) (by omega)
    rw [show ldT (A 264) op 0 (A 264 10) = 4294967295 from if_pos rfl] at e
    exact e
theorem r_led {X : gv_X} {d : Nat} {G : gv_Sh} {A : Nat → Nat → Nat} {j : Nat → Nat → Int64} {cc : gv_Rs} {op : Nat} {tk : Bool} (hp263 : oX12 G 263) (p0 : okW (A 264)) (p1 : TrJ A j) (p2 : op < 4294967296) : ∃ A1 : Nat → Nat → Nat, Ev X (d + 2) gvm_349 0 (gv_enter [.ref 263, .int (nI op), .int (zo tk)] 6) [] (G, (mI A, j), cc) (.inl (some (.int (nI (spLed (A 264) op tk).2))), (G, (mI A1, j), cc)) ∧ (frQ A A1) ∧ (TrJ A1 j) ∧ (A1 263 0 = (spLed (A 264) op tk).1) := by
  obtain ⟨_, h, A1, rfl, hp⟩ := r_led_p (X := X) (d := d) (G := G) (A := A) (j := j) (cc := cc) (op := op) (tk := tk) (P := fun r => ∃ A1 : Nat → Nat → Nat, r = (.inl (some (.int (nI (spLed (A 264) op tk).2))), (G, (mI A1, j), cc)) ∧ (frQ A A1) ∧ (TrJ A1 j) ∧ (A1 263 0 = (spLed (A 264) op tk).1)) hp263 p0 p1 p2 (fun A1 h => ⟨A1, rfl, h⟩)
  exact ⟨A1, h, hp⟩
theorem r_twins_p {X : gv_X} {d : Nat} {G : gv_Sh} {A : Nat → Nat → Nat} {j : Nat → Nat → Int64} {cc : gv_Rs} {P : gv_O × gv_S → Prop}  (hp263 : oX12 G 263) (p0 : okW (A 264)) (hP : P (.inl (some (.int (nI (twC (A 264) (A 264 0))))), (G, (mI (gu A 263 0 0), j), cc))) : EvP X (d + 4) gvm_343 0 (gv_enter [.ref 263] 4) [] (G, (mI A, j), cc) P := by
  have hn := okW_n p0
  have L : ∀ a, a ≤ A 264 0 → ∀ l3, EvP X (d + 4) gvm_343 9 [some (.ref 263), some (.int (nI (twC (A 264) a))), some (.int (nI a)), l3] [] (G, (mI (gu A 263 0 0), j), cc) P := by
    refine up_ind (A 264 0) ?_ ?_
    · intro l3
      exact w343_9 hp263 (show gu A 263 0 0 264 = A 264 from rfl) ⟨by omega, by omega, fun c1 => hP, fun c1 => by omega⟩
    · intro a ha ih l3
      have Lb : ∀ b, b ≤ a → EvP X (d + 4) gvm_343 19 [some (.ref 263), some (.int (nI (twC (A 264) a + cntN (twB (A 264) a) b))), some (.int (nI a)), some (.int (nI b))] [] (G, (mI (gu A 263 0 0), j), cc) P := by
        refine up_ind a ?_ ?_
        · exact w343_19 hp263 (show gu A 263 0 0 264 = A 264 from rfl) ⟨by omega, by omega, fun c1 => ih _, fun c1 => by omega⟩
        · intro b hb ihb
          have hs : cntN (twB (A 264) a) (b + 1) = cntN (twB (A 264) a) b + (twB (A 264) a b).toNat := rfl
          rw [hs] at ihb
          refine w343_19 hp263 (show gu A 263 0 0 264 = A 264 from rfl) ⟨by omega, by omega, fun c1 => by omega, fun c1 => ⟨p0, by omega, by omega, fun c2 => ?_, fun c2 => ?_⟩⟩
          · rw [c2] at ihb; exact ihb
          · rw [c2] at ihb; exact ihb
      exact w343_9 hp263 (show gu A 263 0 0 264 = A 264 from rfl) ⟨by omega, by omega, fun c1 => by omega, fun c1 => Lb 0 (by omega)⟩
  exact w343 hp263 rfl (L 0 (by omega) none)
theorem r_twins {X : gv_X} {d : Nat} {G : gv_Sh} {A : Nat → Nat → Nat} {j : Nat → Nat → Int64} {cc : gv_Rs}  (hp263 : oX12 G 263) (p0 : okW (A 264)) : Ev X (d + 4) gvm_343 0 (gv_enter [.ref 263] 4) [] (G, (mI A, j), cc) (.inl (some (.int (nI (twC (A 264) (A 264 0))))), (G, (mI (gu A 263 0 0), j), cc)) := evp_det (r_twins_p hp263 p0 rfl)
theorem gone {A C D : Nat → Nat → Nat} {jj : Nat → Nat → Int64} {S : Nat → Nat} (hC : C = gw (gu A 263 0 0) 267 (cpN (gu A 263 0 0 264) (gu A 263 0 0 267) 368)) (h1 : D 264 = S) (hS : ∀ i, 368 ≤ i → S i = A 264 i) (h2 : frU C D) (h4 : TrJ D jj) : frQ A (gw D 264 (cpN (D 267) (D 264) 368)) ∧ TrJ (gw D 264 (cpN (D 267) (D 264) 368)) jj ∧ gw D 264 (cpN (D 267) (D 264) 368) 263 0 = 0 ∧ gw D 264 (cpN (D 267) (D 264) 368) 264 = A 264 := by
  have k := kept (A := gu A 263 0 0) hC h2 (fun i hi => by rw [h1, hS i hi]; rfl)
  refine ⟨frQ_tr (frQ_0 (frQ_rf _)) k.1, TrJ_of h4 (gw_row (by decide)) rfl, ?_, k.2⟩
  rw [gw_row (by decide), h2.2 0 (by omega), hC, gw_row (by decide)]
  rfl
theorem w345 {X : gv_X} {d : Nat} {G : gv_Sh} {A : Nat → Nat → Nat} {j : Nat → Nat → Int64} {cc : gv_Rs} {P : gv_O × gv_S → Prop} {n : Nat} {h : Bool} (hp263 : oX12 G 263) (H : (n < 4294967296) ∧ ((((60 < n) → P (.inl (some (.int (nI 0))), (G, (mI (gu (gu A 263 0 0) 263 0 1), j), cc))) ∧ ((¬ (60 < n)) → (∀ A4 : Nat → Nat → Nat, A4 = (gw (gu A 263 0 0) 267 (cpN ((gu A 263 0 0) 264) ((gu A 263 0 0) 267) 368)) → EvP X (d + 9) gvm_345 23 [some (.ref 263), some (.int (nI n)), some (.int (zo h)), none] [] (G, (mI A4, j), cc) P))))) : EvP X (d + 9) gvm_345 0 (gv_enter [.ref 263, .int (nI n), .int (zo h)] 4) [] (G, (mI A, j), cc) P :=
  (pv_aload_n rfl rfl   (pn_iconst rfl rfl   (pn_putI rfl rfl (oX12_k hp263)   (pv_aload_n rfl rfl   (pv_iload_n rfl rfl   (pv_stat rfl rfl rfl rfl rfl rfl rfl rfl (r_noTicks (n := n) (A := (gu A 263 0 0)) H.1 ) (pn_iconst rfl rfl   (Or.elim (Decidable.em (60 < n)) (fun c1 => (pv_virt rfl rfl rfl rfl rfl (oX12_k hp263) rfl rfl rfl (r_thr_t (b := (decide (60 < n))) (c := 1) (A := (gu A 263 0 0)) hp263 (decide_eq_true c1)) (pn_if_eq rfl (by decide) (fun e => absurd e (by decide)) (fun _ => (pn_iconst rfl rfl   (pv_ireti rfl rfl (H.2.1 c1))))))) (fun c1 => (pv_virt rfl rfl rfl rfl rfl (oX12_k hp263) rfl rfl rfl (r_thr_f (b := (decide (60 < n))) (c := 1) (A := (gu A 263 0 0)) hp263 (decide_eq_false c1)) (pn_if_eq rfl (by decide) (fun _ => (pv_aload_n rfl rfl   (match (⟨(gw (gu A 263 0 0) 267 (cpN ((gu A 263 0 0) 264) ((gu A 263 0 0) 267) 368)), rfl⟩ : ∃ Z : Nat → Nat → Nat, Z = (gw (gu A 263 0 0) 267 (cpN ((gu A 263 0 0) 264) ((gu A 263 0 0) 267) 368))) with | ⟨A4, q4⟩ => pv_virt rfl rfl rfl rfl rfl (oX12_k hp263) rfl rfl rfl (ev_eqM q4 (r_keepsAll (A := (gu A 263 0 0)) hp263 )) ((H.2.2 c1) A4 q4)))) (fun e => absurd e (by decide)))))))))))))
theorem w345_23 {X : gv_X} {d : Nat} {G : gv_Sh} {A : Nat → Nat → Nat} {j : Nat → Nat → Int64} {cc : gv_Rs} {P : gv_O × gv_S → Prop} {n : Nat} {h : Bool} (hp263 : oX12 G 263) (H : (okW (A 264)) ∧ ((okLw (A 264)) ∧ ((TrJ A j) ∧ ((n ≤ 60) ∧ ((∀ A11 : Nat → Nat → Nat, ∀ j11 : Nat → Nat → Int64, ((A11 264 = gsR (tbF (A 264)) true n (A 264)) ∧ (frU A A11) ∧ (∀ q, q ≠ 274 → j11 q = j q) ∧ (TrJ A11 j11)) → ((h = false) → (((102 + (13 * 0)) + 0) < 2066) ∧ ((∀ A3 : Nat → Nat → Nat, A3 = (gw A11 264 (cpN (A11 267) (A11 264) 368)) → P (.inl (some (.int (nI (A11 264 ((102 + (13 * 0)) + 0))))), (G, (mI A3, j11), cc))))) ∧ ((h = true) → (((102 + (13 * 1)) + 0) < 2066) ∧ ((∀ A4 : Nat → Nat → Nat, A4 = (gw A11 264 (cpN (A11 267) (A11 264) 368)) → P (.inl (some (.int (nI (A11 264 ((102 + (13 * 1)) + 0))))), (G, (mI A4, j11), cc))))))))))) : EvP X (d + 9) gvm_345 23 [some (.ref 263), some (.int (nI n)), some (.int (zo h)), none] [] (G, (mI A, j), cc) P :=
  (pv_aload_n rfl rfl   (pv_iload_n rfl rfl   (pn_iconst rfl rfl   (match (r_goesOn (n := n) (calm := true) (A := A) (X := X) (d := d + 0) (G := G) (j := j) (cc := cc) hp263 H.1 H.2.1 H.2.2.1 H.2.2.2.1 ) with | ⟨A11, j11, e5x26, h1⟩ => pv_virt rfl rfl rfl rfl rfl (oX12_k hp263) rfl rfl rfl e5x26 (pv_pop rfl rfl   (pv_aload_n rfl rfl   (pv_iload_n rfl rfl   (pv_if_eq_zo rfl  (fun c2 => (pn_iconst rfl rfl   (pn_iconst rfl rfl   (pv_virt rfl rfl rfl rfl rfl (oX12_k hp263) rfl rfl rfl (r_ofGuest (g := 0) (what := 0) (A := A11) hp263 ((H.2.2.2.2 A11 j11 h1).1 c2).1 ) (pv_istore_n rfl rfl   (pv_aload_n rfl rfl   (match (⟨(gw A11 264 (cpN (A11 267) (A11 264) 368)), rfl⟩ : ∃ Z : Nat → Nat → Nat, Z = (gw A11 264 (cpN (A11 267) (A11 264) 368))) with | ⟨A3, q3⟩ => pv_virt rfl rfl rfl rfl rfl (oX12_k hp263) rfl rfl rfl (ev_eqM q3 (r_bringsBack (A := A11) hp263 )) (pv_iload_n rfl rfl   (pv_ireti rfl rfl (((H.2.2.2.2 A11 j11 h1).1 c2).2 A3 q3)))))))))) (fun c2 => (pn_iconst rfl rfl   (pv_goto rfl (pn_iconst rfl rfl   (pv_virt rfl rfl rfl rfl rfl (oX12_k hp263) rfl rfl rfl (r_ofGuest (g := 1) (what := 0) (A := A11) hp263 ((H.2.2.2.2 A11 j11 h1).2 c2).1 ) (pv_istore_n rfl rfl   (pv_aload_n rfl rfl   (match (⟨(gw A11 264 (cpN (A11 267) (A11 264) 368)), rfl⟩ : ∃ Z : Nat → Nat → Nat, Z = (gw A11 264 (cpN (A11 267) (A11 264) 368))) with | ⟨A4, q4⟩ => pv_virt rfl rfl rfl rfl rfl (oX12_k hp263) rfl rfl rfl (ev_eqM q4 (r_bringsBack (A := A11) hp263 )) (pv_iload_n rfl rfl   (pv_ireti rfl rfl (((H.2.2.2.2 A11 j11 h1).2 c2).2 A4 q4)))))))))))))))))))
theorem r_ahead_p {X : gv_X} {d : Nat} {G : gv_Sh} {A : Nat → Nat → Nat} {j : Nat → Nat → Int64} {cc : gv_Rs} {P : gv_O × gv_S → Prop} {n : Nat} {h : Bool} (hp263 : oX12 G 263) (p0 : okW (A 264)) (p1 : okLw (A 264)) (p2 : TrJ A j) (p3 : n < 4294967296) (hP : ∀ A1 : Nat → Nat → Nat, ∀ j1 : Nat → Nat → Int64, (frQ A A1) ∧ (TrJ A1 j1) ∧ (A1 263 0 = (spAhead (A 264) n h).1) → P (.inl (some (.int (nI (spAhead (A 264) n h).2))), (G, (mI A1, j1), cc))) : EvP X (d + 9) gvm_345 0 (gv_enter [.ref 263, .int (nI n), .int (zo h)] 4) [] (G, (mI A, j), cc) P := by
  have K : n ≤ 60 → ∀ C, C = gw (gu A 263 0 0) 267 (cpN (gu A 263 0 0 264) (gu A 263 0 0 267) 368) → EvP X (d + 9) gvm_345 23 [some (.ref 263), some (.int (nI n)), some (.int (zo h)), none] [] (G, (mI C, j), cc) P := by
    intro hn C hC
    have c4 : C 264 = A 264 := by rw [hC, gw_row (by decide)]; rfl
    have ec : (spAhead (A 264) n h).1 = 0 := by unfold spAhead; rw [if_neg (by omega)]
    have ev : (spAhead (A 264) n h).2 = (gsR (tbF (A 264)) true n (A 264)) (102 + 13 * h.toNat + 0) := by unfold spAhead; rw [if_neg (by omega)]
    obtain ⟨o1, o2⟩ := gs_X p0 (tbF (A 264)) true n
    have hS : ∀ i, 368 ≤ i → (gsR (tbF (A 264)) true n (A 264)) i = A 264 i := fun i hi => o2 i (by omega)
    have tC : TrJ C j := TrJ_of p2 (by rw [hC, gw_row (by decide)]; rfl) rfl
    refine w345_23 hp263 ⟨by rw [c4]; exact p0, by rw [c4]; exact p1, tC, hn, ?_⟩
    · intro D jj h1
      obtain ⟨g1, g2, g3, g4⟩ := h1
      rw [c4] at g1
      refine ⟨fun c2 => ⟨by omega, fun Z hZ => ?_⟩, fun c2 => ⟨by omega, fun Z hZ => ?_⟩⟩
      all_goals
        have f := gone hC g1 hS g2 g4
        rw [← hZ] at f
        refine qn (hP Z jj ⟨f.1, f.2.1, f.2.2.1.trans ec.symm⟩) ?_
        rw [ev, g1, c2]
        rfl
  refine w345 hp263  ⟨by (first | omega | assumption), ⟨fun c1 => ?_, fun c1 => (fun A4 q4 => ?_)⟩⟩
  · exact qn (hP _ _ ⟨frQ_0 (frQ_0 (frQ_rf _)), TrJ_of p2 rfl rfl, by rw [gu_hit]; unfold spAhead; rw [if_pos (by omega)]⟩) (by unfold spAhead; rw [if_pos (by omega)])
  · exact K (by omega) _ q4
theorem r_ahead {X : gv_X} {d : Nat} {G : gv_Sh} {A : Nat → Nat → Nat} {j : Nat → Nat → Int64} {cc : gv_Rs} {n : Nat} {h : Bool} (hp263 : oX12 G 263) (p0 : okW (A 264)) (p1 : okLw (A 264)) (p2 : TrJ A j) (p3 : n < 4294967296) : ∃ A1 : Nat → Nat → Nat, ∃ j1 : Nat → Nat → Int64, Ev X (d + 9) gvm_345 0 (gv_enter [.ref 263, .int (nI n), .int (zo h)] 4) [] (G, (mI A, j), cc) (.inl (some (.int (nI (spAhead (A 264) n h).2))), (G, (mI A1, j1), cc)) ∧ (frQ A A1) ∧ (TrJ A1 j1) ∧ (A1 263 0 = (spAhead (A 264) n h).1) := by
  obtain ⟨_, h, A1, j1, rfl, hp⟩ := r_ahead_p (X := X) (d := d) (G := G) (A := A) (j := j) (cc := cc) (n := n) (h := h) (P := fun r => ∃ A1 : Nat → Nat → Nat, ∃ j1 : Nat → Nat → Int64, r = (.inl (some (.int (nI (spAhead (A 264) n h).2))), (G, (mI A1, j1), cc)) ∧ (frQ A A1) ∧ (TrJ A1 j1) ∧ (A1 263 0 = (spAhead (A 264) n h).1)) hp263 p0 p1 p2 p3 (fun A1 j1 h => ⟨A1, j1, rfl, h⟩)
  exact ⟨A1, j1, h, hp⟩
theorem w346 {X : gv_X} {d : Nat} {G : gv_Sh} {A : Nat → Nat → Nat} {j : Nat → Nat → Int64} {cc : gv_Rs} {P : gv_O × gv_S → Prop} {n : Nat} {v : Bool} (hp263 : oX12 G 263) (H : (n < 4294967296) ∧ ((((60 < n) → P (.inl (some (.int (nI 0))), (G, (mI (gu (gu A 263 0 0) 263 0 1), j), cc))) ∧ ((¬ (60 < n)) → (∀ A4 : Nat → Nat → Nat, A4 = (gw (gu A 263 0 0) 267 (cpN ((gu A 263 0 0) 264) ((gu A 263 0 0) 267) 368)) → EvP X (d + 9) gvm_346 23 [some (.ref 263), some (.int (nI n)), some (.int (zo v)), none] [] (G, (mI A4, j), cc) P))))) : EvP X (d + 9) gvm_346 0 (gv_enter [.ref 263, .int (nI n), .int (zo v)] 4) [] (G, (mI A, j), cc) P :=
  (pv_aload_n rfl rfl   (pn_iconst rfl rfl   (pn_putI rfl rfl (oX12_k hp263)   (pv_aload_n rfl rfl   (pv_iload_n rfl rfl   (pv_stat rfl rfl rfl rfl rfl rfl rfl rfl (r_noTicks (n := n) (A := (gu A 263 0 0)) H.1 ) (pn_iconst rfl rfl   (Or.elim (Decidable.em (60 < n)) (fun c1 => (pv_virt rfl rfl rfl rfl rfl (oX12_k hp263) rfl rfl rfl (r_thr_t (b := (decide (60 < n))) (c := 1) (A := (gu A 263 0 0)) hp263 (decide_eq_true c1)) (pn_if_eq rfl (by decide) (fun e => absurd e (by decide)) (fun _ => (pn_iconst rfl rfl   (pv_ireti rfl rfl (H.2.1 c1))))))) (fun c1 => (pv_virt rfl rfl rfl rfl rfl (oX12_k hp263) rfl rfl rfl (r_thr_f (b := (decide (60 < n))) (c := 1) (A := (gu A 263 0 0)) hp263 (decide_eq_false c1)) (pn_if_eq rfl (by decide) (fun _ => (pv_aload_n rfl rfl   (match (⟨(gw (gu A 263 0 0) 267 (cpN ((gu A 263 0 0) 264) ((gu A 263 0 0) 267) 368)), rfl⟩ : ∃ Z : Nat → Nat → Nat, Z = (gw (gu A 263 0 0) 267 (cpN ((gu A 263 0 0) 264) ((gu A 263 0 0) 267) 368))) with | ⟨A4, q4⟩ => pv_virt rfl rfl rfl rfl rfl (oX12_k hp263) rfl rfl rfl (ev_eqM q4 (r_keepsAll (A := (gu A 263 0 0)) hp263 )) ((H.2.2 c1) A4 q4)))) (fun e => absurd e (by decide)))))))))))))
theorem w346_23 {X : gv_X} {d : Nat} {G : gv_Sh} {A : Nat → Nat → Nat} {j : Nat → Nat → Int64} {cc : gv_Rs} {P : gv_O × gv_S → Prop} {n : Nat} {v : Bool} (hp263 : oX12 G 263) (H : (okW (A 264)) ∧ ((okLw (A 264)) ∧ ((TrJ A j) ∧ ((n ≤ 60) ∧ ((∀ A11 : Nat → Nat → Nat, ∀ j11 : Nat → Nat → Int64, ((A11 264 = gsR (tbF (A 264)) false n (A 264)) ∧ (frU A A11) ∧ (∀ q, q ≠ 274 → j11 q = j q) ∧ (TrJ A11 j11)) → ((v = true) → (okW (A11 264)) ∧ ((((alk (A11 264)) = false) → (∀ A4 : Nat → Nat → Nat, A4 = (gw A11 264 (cpN (A11 267) (A11 264) 368)) → P (.inl (some (.int (nI 0))), (G, (mI A4, j11), cc)))) ∧ (((alk (A11 264)) = true) → (∀ A5 : Nat → Nat → Nat, A5 = (gw A11 264 (cpN (A11 267) (A11 264) 368)) → P (.inl (some (.int (nI 1))), (G, (mI A5, j11), cc)))))) ∧ ((v = false) → (∀ A6 : Nat → Nat → Nat, A6 = (gw A11 264 (cpN (A11 267) (A11 264) 368)) → P (.inl (some (.int (nI (A11 264 9)))), (G, (mI A6, j11), cc)))))))))) : EvP X (d + 9) gvm_346 23 [some (.ref 263), some (.int (nI n)), some (.int (zo v)), none] [] (G, (mI A, j), cc) P :=
  (pv_aload_n rfl rfl   (pv_iload_n rfl rfl   (pn_iconst rfl rfl   (match (r_goesOn (n := n) (calm := false) (A := A) (X := X) (d := d + 0) (G := G) (j := j) (cc := cc) hp263 H.1 H.2.1 H.2.2.1 H.2.2.2.1 ) with | ⟨A11, j11, e5x26, h1⟩ => pv_virt rfl rfl rfl rfl rfl (oX12_k hp263) rfl rfl rfl e5x26 (pv_pop rfl rfl   (pv_iload_n rfl rfl   (pv_if_ne_zo rfl  (fun c2 => (pv_aload_n rfl rfl   (pv_virt rfl rfl rfl rfl rfl (oX12_k hp263) rfl rfl rfl (r_areAlike (A := A11) hp263 ((H.2.2.2.2 A11 j11 h1).1 c2).1 ) (pv_if_eq_zo rfl  (fun c3 => (pn_iconst rfl rfl   (pv_istore_n rfl rfl   (pv_aload_n rfl rfl   (match (⟨(gw A11 264 (cpN (A11 267) (A11 264) 368)), rfl⟩ : ∃ Z : Nat → Nat → Nat, Z = (gw A11 264 (cpN (A11 267) (A11 264) 368))) with | ⟨A4, q4⟩ => pv_virt rfl rfl rfl rfl rfl (oX12_k hp263) rfl rfl rfl (ev_eqM q4 (r_bringsBack (A := A11) hp263 )) (pv_iload_n rfl rfl   (pv_ireti rfl rfl ((((H.2.2.2.2 A11 j11 h1).1 c2).2.1 c3) A4 q4)))))))) (fun c3 => (pn_iconst rfl rfl   (pv_goto rfl (pv_istore_n rfl rfl   (pv_aload_n rfl rfl   (match (⟨(gw A11 264 (cpN (A11 267) (A11 264) 368)), rfl⟩ : ∃ Z : Nat → Nat → Nat, Z = (gw A11 264 (cpN (A11 267) (A11 264) 368))) with | ⟨A5, q5⟩ => pv_virt rfl rfl rfl rfl rfl (oX12_k hp263) rfl rfl rfl (ev_eqM q5 (r_bringsBack (A := A11) hp263 )) (pv_iload_n rfl rfl   (pv_ireti rfl rfl ((((H.2.2.2.2 A11 j11 h1).1 c2).2.2 c3) A5 q5))))))))))))) (fun c2 => (pv_aload_n rfl rfl   (pv_getP rfl rfl (oX12_k hp263) (oX12_1 hp263)   (pn_bipush rfl rfl   (pn_iald rfl (oX12_1c hp263) (by decide) (by decide) rfl (pv_goto rfl (pv_istore_n rfl rfl   (pv_aload_n rfl rfl   (match (⟨(gw A11 264 (cpN (A11 267) (A11 264) 368)), rfl⟩ : ∃ Z : Nat → Nat → Nat, Z = (gw A11 264 (cpN (A11 267) (A11 264) 368))) with | ⟨A6, q6⟩ => pv_virt rfl rfl rfl rfl rfl (oX12_k hp263) rfl rfl rfl (ev_eqM q6 (r_bringsBack (A := A11) hp263 )) (pv_iload_n rfl rfl   (pv_ireti rfl rfl (((H.2.2.2.2 A11 j11 h1).2 c2) A6 q6)))))))))))))))))))
theorem r_trial_p {X : gv_X} {d : Nat} {G : gv_Sh} {A : Nat → Nat → Nat} {j : Nat → Nat → Int64} {cc : gv_Rs} {P : gv_O × gv_S → Prop} {n : Nat} {v : Bool} (hp263 : oX12 G 263) (p0 : okW (A 264)) (p1 : okLw (A 264)) (p2 : TrJ A j) (p3 : n < 4294967296) (hP : ∀ A1 : Nat → Nat → Nat, ∀ j1 : Nat → Nat → Int64, (frQ A A1) ∧ (TrJ A1 j1) ∧ (A1 263 0 = (spTrial (A 264) n v).1) → P (.inl (some (.int (nI (spTrial (A 264) n v).2))), (G, (mI A1, j1), cc))) : EvP X (d + 9) gvm_346 0 (gv_enter [.ref 263, .int (nI n), .int (zo v)] 4) [] (G, (mI A, j), cc) P := by
  have K : n ≤ 60 → ∀ C, C = gw (gu A 263 0 0) 267 (cpN (gu A 263 0 0 264) (gu A 263 0 0 267) 368) → EvP X (d + 9) gvm_346 23 [some (.ref 263), some (.int (nI n)), some (.int (zo v)), none] [] (G, (mI C, j), cc) P := by
    intro hn C hC
    have c4 : C 264 = A 264 := by rw [hC, gw_row (by decide)]; rfl
    have ec : (spTrial (A 264) n v).1 = 0 := by unfold spTrial; rw [if_neg (by omega)]
    have ev : (spTrial (A 264) n v).2 = if v = true then (if alk (gsR (tbF (A 264)) false n (A 264)) = true then 1 else 0) else (gsR (tbF (A 264)) false n (A 264)) 9 := by unfold spTrial; rw [if_neg (by omega)]
    obtain ⟨o1, o2⟩ := gs_X p0 (tbF (A 264)) false n
    have hS : ∀ i, 368 ≤ i → (gsR (tbF (A 264)) false n (A 264)) i = A 264 i := fun i hi => o2 i (by omega)
    have tC : TrJ C j := TrJ_of p2 (by rw [hC, gw_row (by decide)]; rfl) rfl
    refine w346_23 hp263 ⟨by rw [c4]; exact p0, by rw [c4]; exact p1, tC, hn, ?_⟩
    · intro D jj h1
      obtain ⟨g1, g2, g3, g4⟩ := h1
      rw [c4] at g1
      refine ⟨fun c2 => ⟨by rw [g1]; exact o1, fun c3 => fun Z hZ => ?_, fun c3 => fun Z hZ => ?_⟩, fun c2 => fun Z hZ => ?_⟩
      all_goals
        have f := gone hC g1 hS g2 g4
        rw [← hZ] at f
        refine qn (hP Z jj ⟨f.1, f.2.1, f.2.2.1.trans ec.symm⟩) ?_
      · rw [g1] at c3
        rw [ev, if_pos c2, if_neg (by rw [c3]; decide)]
      · rw [g1] at c3
        rw [ev, if_pos c2, if_pos c3]
      · rw [ev, if_neg (by rw [c2]; decide), g1]
  refine w346 hp263  ⟨by (first | omega | assumption), ⟨fun c1 => ?_, fun c1 => (fun A4 q4 => ?_)⟩⟩
  · exact qn (hP _ _ ⟨frQ_0 (frQ_0 (frQ_rf _)), TrJ_of p2 rfl rfl, by rw [gu_hit]; unfold spTrial; rw [if_pos (by omega)]⟩) (by unfold spTrial; rw [if_pos (by omega)])
  · exact K (by omega) _ q4
theorem r_trial {X : gv_X} {d : Nat} {G : gv_Sh} {A : Nat → Nat → Nat} {j : Nat → Nat → Int64} {cc : gv_Rs} {n : Nat} {v : Bool} (hp263 : oX12 G 263) (p0 : okW (A 264)) (p1 : okLw (A 264)) (p2 : TrJ A j) (p3 : n < 4294967296) : ∃ A1 : Nat → Nat → Nat, ∃ j1 : Nat → Nat → Int64, Ev X (d + 9) gvm_346 0 (gv_enter [.ref 263, .int (nI n), .int (zo v)] 4) [] (G, (mI A, j), cc) (.inl (some (.int (nI (spTrial (A 264) n v).2))), (G, (mI A1, j1), cc)) ∧ (frQ A A1) ∧ (TrJ A1 j1) ∧ (A1 263 0 = (spTrial (A 264) n v).1) := by
  obtain ⟨_, h, A1, j1, rfl, hp⟩ := r_trial_p (X := X) (d := d) (G := G) (A := A) (j := j) (cc := cc) (n := n) (v := v) (P := fun r => ∃ A1 : Nat → Nat → Nat, ∃ j1 : Nat → Nat → Int64, r = (.inl (some (.int (nI (spTrial (A 264) n v).2))), (G, (mI A1, j1), cc)) ∧ (frQ A A1) ∧ (TrJ A1 j1) ∧ (A1 263 0 = (spTrial (A 264) n v).1)) hp263 p0 p1 p2 p3 (fun A1 j1 h => ⟨A1, j1, rfl, h⟩)
  exact ⟨A1, j1, h, hp⟩
