/-! wrappers -/
theorem wr_377 {X : gv_X} {d : Nat} {G : gv_Sh} {A : Nat → Nat → Nat} {j : Nat → Nat → Int64} {cc : gv_Rs} {p : Nat} {R : Nat → Nat} (hp0 : oX11 G 0) (h279 : G.2.1 279 = (102, 1)) (p0 : cK A R) (p1 : p < 4294967296) : ∃ (A1 : Nat → Nat → Nat) (j1 : Nat → Nat → Int64) (cc1 : gv_Rs), ((cK A1 R) ∧ (frK A A1)) ∧ ((spRests R p).1 = 0 → j1 279 0 = (Int32.toInt64 (nI (spRests R p).2))) ∧ (∀ q, q ≠ 279 → j1 q = j q) ∧ ccl cc cc1 ∧ (spRests R p).1 ≤ 3 ∧ Ev X (d + 7) gvm_377 0 (gv_enter [.ref 0, .int (nI p), .ref 279] 4) [] (G, (mI A, j), cc) (.inl (some (.int (nI (spRests R p).1))), (G, (mI A1, j1), cc1)) := by
  obtain ⟨r, ev, A1, hq, rfl⟩ := c_rests_p (X := X) (d := d) (G := G) (A := A) (j := j) (cc := cc) (p := p) (R := R) (P := fun r => ∃ A1 : Nat → Nat → Nat, ((cK A1 R) ∧ (frK A A1)) ∧ r = oc (fun _ => 1) (spRests R p).1 (spRests R p).2 (G, (mI A1, j), cc)) hp0 p0 p1 (fun A1 h => ⟨A1, h, rfl⟩)
  have ec : (spRests R p).1 = 0 ∨ (spRests R p).1 = 1 := by
    unfold spRests
    repeat' (first | exact Or.inl rfl | exact Or.inr rfl | exact Or.inr (Or.inl rfl) | exact Or.inr (Or.inr rfl) | exact Or.inr (Or.inr (Or.inl rfl)) | exact Or.inr (Or.inr (Or.inr rfl)) | split)
  rcases ec with e0 | e1
  · rw [oc_0 e0] at ev
    refine ⟨A1, gu j 279 0 (Int32.toInt64 (nI (spRests R p).2)), cc, hq, fun _ => gu_hit _ _ _ _, fun q h => gu_row h, ccl_rf cc, by omega, ?_⟩
    rw [e0]
    exact (ev_aload_n rfl rfl (en_iconst rfl rfl (ev_aload_n rfl rfl (ev_iload_n rfl rfl (ev_virt rfl rfl rfl rfl rfl (oX11_k hp0) rfl rfl rfl ev (ev_i2l rfl (en_last rfl h279 (by decide) (by decide) (ev_goto rfl (en_iconst rfl rfl (ev_ireti rfl rfl rfl))))))))))
  · rw [oc_x (e := (fun _ => 1)) (m := 1) e1 (by decide) rfl] at ev
    refine ⟨A1, j, (1, cc.2.1 + 1, cc.2.2 + 6), hq, fun z => absurd (e1.symm.trans z) (by decide), fun q h => rfl, ⟨Nat.le_refl _, Nat.le_refl _⟩, by omega, ?_⟩
    rw [e1]
    exact (ev_aload_n rfl rfl (en_iconst rfl rfl (ev_aload_n rfl rfl (ev_iload_n rfl rfl (ev_virtC rfl rfl rfl rfl rfl (oX11_k hp0) rfl rfl rfl (y := 12) rfl rfl ev (en_iconst rfl rfl (ev_ireti rfl rfl rfl)))))))
theorem wr_378 {X : gv_X} {d : Nat} {G : gv_Sh} {A : Nat → Nat → Nat} {j : Nat → Nat → Int64} {cc : gv_Rs} {n : Nat} {k : Nat} {R : Nat → Nat} (hp0 : oX11 G 0) (h279 : G.2.1 279 = (102, 1)) (p0 : cK A R) (p1 : n < 4294967296) (p2 : k < 4294967296) : ∃ (A1 : Nat → Nat → Nat) (j1 : Nat → Nat → Int64) (cc1 : gv_Rs), ((cK A1 R) ∧ (frK A A1)) ∧ ((spOdds R n k).1 = 0 → j1 279 0 = (Int32.toInt64 (nI (spOdds R n k).2))) ∧ (∀ q, q ≠ 279 → j1 q = j q) ∧ ccl cc cc1 ∧ (spOdds R n k).1 ≤ 3 ∧ Ev X (d + 2) gvm_378 0 (gv_enter [.ref 0, .int (nI n), .int (nI k), .ref 279] 5) [] (G, (mI A, j), cc) (.inl (some (.int (nI (spOdds R n k).1))), (G, (mI A1, j1), cc1)) := by
  obtain ⟨r, ev, A1, hq, rfl⟩ := c_odds_p (X := X) (d := d) (G := G) (A := A) (j := j) (cc := cc) (n := n) (k := k) (R := R) (P := fun r => ∃ A1 : Nat → Nat → Nat, ((cK A1 R) ∧ (frK A A1)) ∧ r = oc (fun _ => 0) (spOdds R n k).1 (spOdds R n k).2 (G, (mI A1, j), cc)) hp0 p0 p1 p2 (fun A1 h => ⟨A1, h, rfl⟩)
  have ec : (spOdds R n k).1 = 0 ∨ (spOdds R n k).1 = 1 := by
    unfold spOdds
    repeat' (first | exact Or.inl rfl | exact Or.inr rfl | exact Or.inr (Or.inl rfl) | exact Or.inr (Or.inr rfl) | exact Or.inr (Or.inr (Or.inl rfl)) | exact Or.inr (Or.inr (Or.inr rfl)) | split)
  rcases ec with e0 | e1
  · rw [oc_0 e0] at ev
    refine ⟨A1, gu j 279 0 (Int32.toInt64 (nI (spOdds R n k).2)), cc, hq, fun _ => gu_hit _ _ _ _, fun q h => gu_row h, ccl_rf cc, by omega, ?_⟩
    rw [e0]
    exact (ev_aload_n rfl rfl (en_iconst rfl rfl (ev_aload_n rfl rfl (ev_iload_n rfl rfl (ev_iload_n rfl rfl (ev_virt rfl rfl rfl rfl rfl (oX11_k hp0) rfl rfl rfl ev (ev_i2l rfl (en_last rfl h279 (by decide) (by decide) (ev_goto rfl (en_iconst rfl rfl (ev_ireti rfl rfl rfl)))))))))))
  · rw [oc_x (e := (fun _ => 0)) (m := 0) e1 (by decide) rfl] at ev
    refine ⟨A1, j, (1, cc.2.1 + 1, cc.2.2 + 6), hq, fun z => absurd (e1.symm.trans z) (by decide), fun q h => rfl, ⟨Nat.le_refl _, Nat.le_refl _⟩, by omega, ?_⟩
    rw [e1]
    exact (ev_aload_n rfl rfl (en_iconst rfl rfl (ev_aload_n rfl rfl (ev_iload_n rfl rfl (ev_iload_n rfl rfl (ev_virtC rfl rfl rfl rfl rfl (oX11_k hp0) rfl rfl rfl (y := 13) rfl rfl ev (en_iconst rfl rfl (ev_ireti rfl rfl rfl))))))))
theorem wr_379 {X : gv_X} {d : Nat} {G : gv_Sh} {A : Nat → Nat → Nat} {j : Nat → Nat → Int64} {cc : gv_Rs} {h : Nat} {R : Nat → Nat} (hp0 : oX11 G 0) (h279 : G.2.1 279 = (102, 1)) (p0 : cK A R) (p1 : h < 4294967296) : ∃ (A1 : Nat → Nat → Nat) (j1 : Nat → Nat → Int64) (cc1 : gv_Rs), ((cK A1 R) ∧ (frK A A1)) ∧ ((spMost R h).1 = 0 → j1 279 0 = (Int32.toInt64 (nI (spMost R h).2))) ∧ (∀ q, q ≠ 279 → j1 q = j q) ∧ ccl cc cc1 ∧ (spMost R h).1 ≤ 3 ∧ Ev X (d + 7) gvm_379 0 (gv_enter [.ref 0, .int (nI h), .ref 279] 4) [] (G, (mI A, j), cc) (.inl (some (.int (nI (spMost R h).1))), (G, (mI A1, j1), cc1)) := by
  obtain ⟨r, ev, A1, hq, rfl⟩ := c_most_p (X := X) (d := d) (G := G) (A := A) (j := j) (cc := cc) (h := h) (R := R) (P := fun r => ∃ A1 : Nat → Nat → Nat, ((cK A1 R) ∧ (frK A A1)) ∧ r = oc (fun _ => 3) (spMost R h).1 (spMost R h).2 (G, (mI A1, j), cc)) hp0 p0 p1 (fun A1 h => ⟨A1, h, rfl⟩)
  have ec : (spMost R h).1 = 0 ∨ (spMost R h).1 = 1 := by
    unfold spMost
    repeat' (first | exact Or.inl rfl | exact Or.inr rfl | exact Or.inr (Or.inl rfl) | exact Or.inr (Or.inr rfl) | exact Or.inr (Or.inr (Or.inl rfl)) | exact Or.inr (Or.inr (Or.inr rfl)) | split)
  rcases ec with e0 | e1
  · rw [oc_0 e0] at ev
    refine ⟨A1, gu j 279 0 (Int32.toInt64 (nI (spMost R h).2)), cc, hq, fun _ => gu_hit _ _ _ _, fun q h => gu_row h, ccl_rf cc, by omega, ?_⟩
    rw [e0]
    exact (ev_aload_n rfl rfl (en_iconst rfl rfl (ev_aload_n rfl rfl (ev_iload_n rfl rfl (ev_virt rfl rfl rfl rfl rfl (oX11_k hp0) rfl rfl rfl ev (ev_i2l rfl (en_last rfl h279 (by decide) (by decide) (ev_goto rfl (en_iconst rfl rfl (ev_ireti rfl rfl rfl))))))))))
  · rw [oc_x (e := (fun _ => 3)) (m := 3) e1 (by decide) rfl] at ev
    refine ⟨A1, j, (1, cc.2.1 + 1, cc.2.2 + 6), hq, fun z => absurd (e1.symm.trans z) (by decide), fun q h => rfl, ⟨Nat.le_refl _, Nat.le_refl _⟩, by omega, ?_⟩
    rw [e1]
    exact (ev_aload_n rfl rfl (en_iconst rfl rfl (ev_aload_n rfl rfl (ev_iload_n rfl rfl (ev_virtC rfl rfl rfl rfl rfl (oX11_k hp0) rfl rfl rfl (y := 12) rfl rfl ev (en_iconst rfl rfl (ev_ireti rfl rfl rfl)))))))
theorem wr_380 {X : gv_X} {d : Nat} {G : gv_Sh} {A : Nat → Nat → Nat} {j : Nat → Nat → Int64} {cc : gv_Rs} {n : Nat} {b : Bool} {R : Nat → Nat} (hp0 : oX11 G 0) (h279 : G.2.1 279 = (102, 1)) (p0 : cK A R) (p1 : n < 4294967296) : ∃ (A1 : Nat → Nat → Nat) (j1 : Nat → Nat → Int64) (cc1 : gv_Rs), ((cK A1 R) ∧ (frK A A1)) ∧ ((spAhead R n b).1 = 0 → j1 279 0 = (Int32.toInt64 (nI (spAhead R n b).2))) ∧ (∀ q, q ≠ 279 → j1 q = j q) ∧ ccl cc cc1 ∧ (spAhead R n b).1 ≤ 3 ∧ Ev X (d + 8) gvm_380 0 (gv_enter [.ref 0, .int (nI n), .int (zo b), .ref 279] 5) [] (G, (mI A, j), cc) (.inl (some (.int (nI (spAhead R n b).1))), (G, (mI A1, j1), cc1)) := by
  obtain ⟨r, ev, A1, hq, rfl⟩ := c_ahead_p (X := X) (d := d) (G := G) (A := A) (j := j) (cc := cc) (n := n) (b := b) (R := R) (P := fun r => ∃ A1 : Nat → Nat → Nat, ((cK A1 R) ∧ (frK A A1)) ∧ r = oc (fun _ => 0) (spAhead R n b).1 (spAhead R n b).2 (G, (mI A1, j), cc)) hp0 p0 p1 (fun A1 h => ⟨A1, h, rfl⟩)
  have ec : (spAhead R n b).1 = 0 ∨ (spAhead R n b).1 = 1 := by
    unfold spAhead
    repeat' (first | exact Or.inl rfl | exact Or.inr rfl | exact Or.inr (Or.inl rfl) | exact Or.inr (Or.inr rfl) | exact Or.inr (Or.inr (Or.inl rfl)) | exact Or.inr (Or.inr (Or.inr rfl)) | split)
  rcases ec with e0 | e1
  · rw [oc_0 e0] at ev
    refine ⟨A1, gu j 279 0 (Int32.toInt64 (nI (spAhead R n b).2)), cc, hq, fun _ => gu_hit _ _ _ _, fun q h => gu_row h, ccl_rf cc, by omega, ?_⟩
    rw [e0]
    exact (ev_aload_n rfl rfl (en_iconst rfl rfl (ev_aload_n rfl rfl (ev_iload_n rfl rfl (ev_iload_n rfl rfl (ev_virt rfl rfl rfl rfl rfl (oX11_k hp0) rfl rfl rfl ev (ev_i2l rfl (en_last rfl h279 (by decide) (by decide) (ev_goto rfl (en_iconst rfl rfl (ev_ireti rfl rfl rfl)))))))))))
  · rw [oc_x (e := (fun _ => 0)) (m := 0) e1 (by decide) rfl] at ev
    refine ⟨A1, j, (1, cc.2.1 + 1, cc.2.2 + 6), hq, fun z => absurd (e1.symm.trans z) (by decide), fun q h => rfl, ⟨Nat.le_refl _, Nat.le_refl _⟩, by omega, ?_⟩
    rw [e1]
    exact (ev_aload_n rfl rfl (en_iconst rfl rfl (ev_aload_n rfl rfl (ev_iload_n rfl rfl (ev_iload_n rfl rfl (ev_virtC rfl rfl rfl rfl rfl (oX11_k hp0) rfl rfl rfl (y := 13) rfl rfl ev (en_iconst rfl rfl (ev_ireti rfl rfl rfl))))))))
theorem wr_381 {X : gv_X} {d : Nat} {G : gv_Sh} {A : Nat → Nat → Nat} {j : Nat → Nat → Int64} {cc : gv_Rs} {n : Nat} {b : Bool} {R : Nat → Nat} (hp0 : oX11 G 0) (h279 : G.2.1 279 = (102, 1)) (p0 : cK A R) (p1 : n < 4294967296) : ∃ (A1 : Nat → Nat → Nat) (j1 : Nat → Nat → Int64) (cc1 : gv_Rs), ((cK A1 R) ∧ (frK A A1)) ∧ ((spTrial R n b).1 = 0 → j1 279 0 = (Int32.toInt64 (nI (spTrial R n b).2))) ∧ (∀ q, q ≠ 279 → j1 q = j q) ∧ ccl cc cc1 ∧ (spTrial R n b).1 ≤ 3 ∧ Ev X (d + 8) gvm_381 0 (gv_enter [.ref 0, .int (nI n), .int (zo b), .ref 279] 5) [] (G, (mI A, j), cc) (.inl (some (.int (nI (spTrial R n b).1))), (G, (mI A1, j1), cc1)) := by
  obtain ⟨r, ev, A1, hq, rfl⟩ := c_trial_p (X := X) (d := d) (G := G) (A := A) (j := j) (cc := cc) (n := n) (b := b) (R := R) (P := fun r => ∃ A1 : Nat → Nat → Nat, ((cK A1 R) ∧ (frK A A1)) ∧ r = oc (fun _ => 0) (spTrial R n b).1 (spTrial R n b).2 (G, (mI A1, j), cc)) hp0 p0 p1 (fun A1 h => ⟨A1, h, rfl⟩)
  have ec : (spTrial R n b).1 = 0 ∨ (spTrial R n b).1 = 1 := by
    unfold spTrial
    repeat' (first | exact Or.inl rfl | exact Or.inr rfl | exact Or.inr (Or.inl rfl) | exact Or.inr (Or.inr rfl) | exact Or.inr (Or.inr (Or.inl rfl)) | exact Or.inr (Or.inr (Or.inr rfl)) | split)
  rcases ec with e0 | e1
  · rw [oc_0 e0] at ev
    refine ⟨A1, gu j 279 0 (Int32.toInt64 (nI (spTrial R n b).2)), cc, hq, fun _ => gu_hit _ _ _ _, fun q h => gu_row h, ccl_rf cc, by omega, ?_⟩
    rw [e0]
    exact (ev_aload_n rfl rfl (en_iconst rfl rfl (ev_aload_n rfl rfl (ev_iload_n rfl rfl (ev_iload_n rfl rfl (ev_virt rfl rfl rfl rfl rfl (oX11_k hp0) rfl rfl rfl ev (ev_i2l rfl (en_last rfl h279 (by decide) (by decide) (ev_goto rfl (en_iconst rfl rfl (ev_ireti rfl rfl rfl)))))))))))
  · rw [oc_x (e := (fun _ => 0)) (m := 0) e1 (by decide) rfl] at ev
    refine ⟨A1, j, (1, cc.2.1 + 1, cc.2.2 + 6), hq, fun z => absurd (e1.symm.trans z) (by decide), fun q h => rfl, ⟨Nat.le_refl _, Nat.le_refl _⟩, by omega, ?_⟩
    rw [e1]
    exact (ev_aload_n rfl rfl (en_iconst rfl rfl (ev_aload_n rfl rfl (ev_iload_n rfl rfl (ev_iload_n rfl rfl (ev_virtC rfl rfl rfl rfl rfl (oX11_k hp0) rfl rfl rfl (y := 13) rfl rfl ev (en_iconst rfl rfl (ev_ireti rfl rfl rfl))))))))
theorem wr_382 {X : gv_X} {d : Nat} {G : gv_Sh} {A : Nat → Nat → Nat} {j : Nat → Nat → Int64} {cc : gv_Rs} {n : Nat} {b : Bool} {R : Nat → Nat} (hp0 : oX11 G 0) (h279 : G.2.1 279 = (102, 1)) (p0 : cK A R) (p1 : n < 4294967296) : ∃ (A1 : Nat → Nat → Nat) (j1 : Nat → Nat → Int64) (cc1 : gv_Rs), ((cK A1 R) ∧ (frK A A1)) ∧ ((spSpan R n b).1 = 0 → j1 279 0 = (Int32.toInt64 (nI (spSpan R n b).2))) ∧ (∀ q, q ≠ 279 → j1 q = j q) ∧ ccl cc cc1 ∧ (spSpan R n b).1 ≤ 3 ∧ Ev X (d + 8) gvm_382 0 (gv_enter [.ref 0, .int (nI n), .int (zo b), .ref 279] 5) [] (G, (mI A, j), cc) (.inl (some (.int (nI (spSpan R n b).1))), (G, (mI A1, j1), cc1)) := by
  obtain ⟨r, ev, A1, hq, rfl⟩ := c_span_p (X := X) (d := d) (G := G) (A := A) (j := j) (cc := cc) (n := n) (b := b) (R := R) (P := fun r => ∃ A1 : Nat → Nat → Nat, ((cK A1 R) ∧ (frK A A1)) ∧ r = oc (fun _ => 0) (spSpan R n b).1 (spSpan R n b).2 (G, (mI A1, j), cc)) hp0 p0 p1 (fun A1 h => ⟨A1, h, rfl⟩)
  have ec : (spSpan R n b).1 = 0 ∨ (spSpan R n b).1 = 1 := by
    unfold spSpan
    repeat' (first | exact Or.inl rfl | exact Or.inr rfl | exact Or.inr (Or.inl rfl) | exact Or.inr (Or.inr rfl) | exact Or.inr (Or.inr (Or.inl rfl)) | exact Or.inr (Or.inr (Or.inr rfl)) | split)
  rcases ec with e0 | e1
  · rw [oc_0 e0] at ev
    refine ⟨A1, gu j 279 0 (Int32.toInt64 (nI (spSpan R n b).2)), cc, hq, fun _ => gu_hit _ _ _ _, fun q h => gu_row h, ccl_rf cc, by omega, ?_⟩
    rw [e0]
    exact (ev_aload_n rfl rfl (en_iconst rfl rfl (ev_aload_n rfl rfl (ev_iload_n rfl rfl (ev_iload_n rfl rfl (ev_virt rfl rfl rfl rfl rfl (oX11_k hp0) rfl rfl rfl ev (ev_i2l rfl (en_last rfl h279 (by decide) (by decide) (ev_goto rfl (en_iconst rfl rfl (ev_ireti rfl rfl rfl)))))))))))
  · rw [oc_x (e := (fun _ => 0)) (m := 0) e1 (by decide) rfl] at ev
    refine ⟨A1, j, (1, cc.2.1 + 1, cc.2.2 + 6), hq, fun z => absurd (e1.symm.trans z) (by decide), fun q h => rfl, ⟨Nat.le_refl _, Nat.le_refl _⟩, by omega, ?_⟩
    rw [e1]
    exact (ev_aload_n rfl rfl (en_iconst rfl rfl (ev_aload_n rfl rfl (ev_iload_n rfl rfl (ev_iload_n rfl rfl (ev_virtC rfl rfl rfl rfl rfl (oX11_k hp0) rfl rfl rfl (y := 13) rfl rfl ev (en_iconst rfl rfl (ev_ireti rfl rfl rfl))))))))
theorem wr_383 {X : gv_X} {d : Nat} {G : gv_Sh} {A : Nat → Nat → Nat} {j : Nat → Nat → Int64} {cc : gv_Rs} {p : Nat} {b : Bool} {R : Nat → Nat} (hp0 : oX11 G 0) (h279 : G.2.1 279 = (102, 1)) (p0 : cK A R) (p1 : p < 4294967296) : ∃ (A1 : Nat → Nat → Nat) (j1 : Nat → Nat → Int64) (cc1 : gv_Rs), ((cK A1 R) ∧ (frK A A1)) ∧ ((spLed R p b).1 = 0 → j1 279 0 = (Int32.toInt64 (nI (spLed R p b).2))) ∧ (∀ q, q ≠ 279 → j1 q = j q) ∧ ccl cc cc1 ∧ (spLed R p b).1 ≤ 3 ∧ Ev X (d + 3) gvm_383 0 (gv_enter [.ref 0, .int (nI p), .int (zo b), .ref 279] 5) [] (G, (mI A, j), cc) (.inl (some (.int (nI (spLed R p b).1))), (G, (mI A1, j1), cc1)) := by
  obtain ⟨r, ev, A1, hq, rfl⟩ := c_led_p (X := X) (d := d) (G := G) (A := A) (j := j) (cc := cc) (p := p) (b := b) (R := R) (P := fun r => ∃ A1 : Nat → Nat → Nat, ((cK A1 R) ∧ (frK A A1)) ∧ r = oc (fun _ => 1) (spLed R p b).1 (spLed R p b).2 (G, (mI A1, j), cc)) hp0 p0 p1 (fun A1 h => ⟨A1, h, rfl⟩)
  have ec : (spLed R p b).1 = 0 ∨ (spLed R p b).1 = 1 := by
    unfold spLed
    repeat' (first | exact Or.inl rfl | exact Or.inr rfl | exact Or.inr (Or.inl rfl) | exact Or.inr (Or.inr rfl) | exact Or.inr (Or.inr (Or.inl rfl)) | exact Or.inr (Or.inr (Or.inr rfl)) | split)
  rcases ec with e0 | e1
  · rw [oc_0 e0] at ev
    refine ⟨A1, gu j 279 0 (Int32.toInt64 (nI (spLed R p b).2)), cc, hq, fun _ => gu_hit _ _ _ _, fun q h => gu_row h, ccl_rf cc, by omega, ?_⟩
    rw [e0]
    exact (ev_aload_n rfl rfl (en_iconst rfl rfl (ev_aload_n rfl rfl (ev_iload_n rfl rfl (ev_iload_n rfl rfl (ev_virt rfl rfl rfl rfl rfl (oX11_k hp0) rfl rfl rfl ev (ev_i2l rfl (en_last rfl h279 (by decide) (by decide) (ev_goto rfl (en_iconst rfl rfl (ev_ireti rfl rfl rfl)))))))))))
  · rw [oc_x (e := (fun _ => 1)) (m := 1) e1 (by decide) rfl] at ev
    refine ⟨A1, j, (1, cc.2.1 + 1, cc.2.2 + 6), hq, fun z => absurd (e1.symm.trans z) (by decide), fun q h => rfl, ⟨Nat.le_refl _, Nat.le_refl _⟩, by omega, ?_⟩
    rw [e1]
    exact (ev_aload_n rfl rfl (en_iconst rfl rfl (ev_aload_n rfl rfl (ev_iload_n rfl rfl (ev_iload_n rfl rfl (ev_virtC rfl rfl rfl rfl rfl (oX11_k hp0) rfl rfl rfl (y := 13) rfl rfl ev (en_iconst rfl rfl (ev_ireti rfl rfl rfl))))))))
theorem wr_384 {X : gv_X} {d : Nat} {G : gv_Sh} {A : Nat → Nat → Nat} {j : Nat → Nat → Int64} {cc : gv_Rs} {a : Nat} {h : Nat} {R : Nat → Nat} (hp0 : oX11 G 0) (h279 : G.2.1 279 = (102, 1)) (p0 : cK A R) (p1 : a < 4294967296) (p2 : h < 4294967296) : ∃ (A1 : Nat → Nat → Nat) (j1 : Nat → Nat → Int64) (cc1 : gv_Rs), ((cK A1 R) ∧ (frK A A1)) ∧ ((spLog R a h).1 = 0 → j1 279 0 = (Int32.toInt64 (nI (spLog R a h).2))) ∧ (∀ q, q ≠ 279 → j1 q = j q) ∧ ccl cc cc1 ∧ (spLog R a h).1 ≤ 3 ∧ Ev X (d + 3) gvm_384 0 (gv_enter [.ref 0, .int (nI a), .int (nI h), .ref 279] 5) [] (G, (mI A, j), cc) (.inl (some (.int (nI (spLog R a h).1))), (G, (mI A1, j1), cc1)) := by
  obtain ⟨r, ev, A1, hq, rfl⟩ := c_log_p (X := X) (d := d) (G := G) (A := A) (j := j) (cc := cc) (a := a) (h := h) (R := R) (P := fun r => ∃ A1 : Nat → Nat → Nat, ((cK A1 R) ∧ (frK A A1)) ∧ r = oc (fun _ => 3) (spLog R a h).1 (spLog R a h).2 (G, (mI A1, j), cc)) hp0 p0 p1 p2 (fun A1 h => ⟨A1, h, rfl⟩)
  have ec : (spLog R a h).1 = 0 ∨ (spLog R a h).1 = 1 := by
    unfold spLog
    repeat' (first | exact Or.inl rfl | exact Or.inr rfl | exact Or.inr (Or.inl rfl) | exact Or.inr (Or.inr rfl) | exact Or.inr (Or.inr (Or.inl rfl)) | exact Or.inr (Or.inr (Or.inr rfl)) | split)
  rcases ec with e0 | e1
  · rw [oc_0 e0] at ev
    refine ⟨A1, gu j 279 0 (Int32.toInt64 (nI (spLog R a h).2)), cc, hq, fun _ => gu_hit _ _ _ _, fun q h => gu_row h, ccl_rf cc, by omega, ?_⟩
    rw [e0]
    exact (ev_aload_n rfl rfl (en_iconst rfl rfl (ev_aload_n rfl rfl (ev_iload_n rfl rfl (ev_iload_n rfl rfl (ev_virt rfl rfl rfl rfl rfl (oX11_k hp0) rfl rfl rfl ev (ev_i2l rfl (en_last rfl h279 (by decide) (by decide) (ev_goto rfl (en_iconst rfl rfl (ev_ireti rfl rfl rfl)))))))))))
  · rw [oc_x (e := (fun _ => 3)) (m := 3) e1 (by decide) rfl] at ev
    refine ⟨A1, j, (1, cc.2.1 + 1, cc.2.2 + 6), hq, fun z => absurd (e1.symm.trans z) (by decide), fun q h => rfl, ⟨Nat.le_refl _, Nat.le_refl _⟩, by omega, ?_⟩
    rw [e1]
    exact (ev_aload_n rfl rfl (en_iconst rfl rfl (ev_aload_n rfl rfl (ev_iload_n rfl rfl (ev_iload_n rfl rfl (ev_virtC rfl rfl rfl rfl rfl (oX11_k hp0) rfl rfl rfl (y := 13) rfl rfl ev (en_iconst rfl rfl (ev_ireti rfl rfl rfl))))))))
