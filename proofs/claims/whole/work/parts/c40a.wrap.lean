/-! wrappers -/
theorem wr_353 {X : gv_X} {d : Nat} {G : gv_Sh} {A : Nat → Nat → Nat} {j : Nat → Nat → Int64} {cc : gv_Rs} {t : Nat → Nat} {R : Nat → Nat} (hp0 : oX11 G 0) (h279 : G.2.1 279 = (102, 1)) (p0 : cK A R) (p1 : A 0 1 ≤ 400) (p2 : ∀ i, i < A 0 1 → A 1 i < 256 ∧ t i = sx8 (A 1 i)) : ∃ (A1 : Nat → Nat → Nat) (j1 : Nat → Nat → Int64) (cc1 : gv_Rs), ((beP A A1 t (A 0 1) R)) ∧ ((spBe t (A 0 1) R).1 = 0 → j1 279 0 = (Int32.toInt64 (nI (spBe t (A 0 1) R).2))) ∧ (∀ q, q ≠ 279 → j1 q = j q) ∧ ccl cc cc1 ∧ (spBe t (A 0 1) R).1 ≤ 3 ∧ Ev X (d + 8) gvm_353 0 (gv_enter [.ref 0, .ref 279] 3) [] (G, (mI A, j), cc) (.inl (some (.int (nI (spBe t (A 0 1) R).1))), (G, (mI A1, j1), cc1)) := by
  obtain ⟨r, ev, A1, hq, rfl⟩ := c_bench_p (X := X) (d := d) (G := G) (A := A) (j := j) (cc := cc)  (t := t) (E := 0) (R := R) (P := fun r => ∃ A1 : Nat → Nat → Nat, ((beP A A1 t (A 0 1) R)) ∧ r = oc (fun c => if c = 1 then 0 else 2) (spBe t (A 0 1) R).1 (spBe t (A 0 1) R).2 (G, (mI A1, j), cc)) hp0 p0 p1 p2 (fun A1 h => ⟨A1, h, rfl⟩)
  have ec : (spBe t (A 0 1) R).1 = 0 ∨ (spBe t (A 0 1) R).1 = 1 ∨ (spBe t (A 0 1) R).1 = 2 := by
    unfold spBe
    repeat' (first | exact Or.inl rfl | exact Or.inr rfl | exact Or.inr (Or.inl rfl) | exact Or.inr (Or.inr rfl) | exact Or.inr (Or.inr (Or.inl rfl)) | exact Or.inr (Or.inr (Or.inr rfl)) | split)
  rcases ec with e0 | e1 | e2
  · rw [oc_0 e0] at ev
    refine ⟨A1, gu j 279 0 (Int32.toInt64 (nI (spBe t (A 0 1) R).2)), cc, hq, fun _ => gu_hit _ _ _ _, fun q h => gu_row h, ccl_rf cc, by omega, ?_⟩
    rw [e0]
    exact (ev_aload_n rfl rfl (en_iconst rfl rfl (ev_aload_n rfl rfl (ev_virt rfl rfl rfl rfl rfl (oX11_k hp0) rfl rfl rfl ev (ev_i2l rfl (en_last rfl h279 (by decide) (by decide) (ev_goto rfl (en_iconst rfl rfl (ev_ireti rfl rfl rfl)))))))))
  · rw [oc_x (e := (fun c => if c = 1 then 0 else 2)) (m := 0) e1 (by decide) rfl] at ev
    refine ⟨A1, j, (1, cc.2.1 + 1, cc.2.2 + 6), hq, fun z => absurd (e1.symm.trans z) (by decide), fun q h => rfl, ⟨Nat.le_refl _, Nat.le_refl _⟩, by omega, ?_⟩
    rw [e1]
    exact (ev_aload_n rfl rfl (en_iconst rfl rfl (ev_aload_n rfl rfl (ev_virtC rfl rfl rfl rfl rfl (oX11_k hp0) rfl rfl rfl (y := 11) rfl rfl ev (en_iconst rfl rfl (ev_ireti rfl rfl rfl))))))
  · rw [oc_x (e := (fun c => if c = 1 then 0 else 2)) (m := 2) e2 (by decide) rfl] at ev
    refine ⟨A1, j, (1, cc.2.1 + 1, cc.2.2 + 6), hq, fun z => absurd (e2.symm.trans z) (by decide), fun q h => rfl, ⟨Nat.le_refl _, Nat.le_refl _⟩, by omega, ?_⟩
    rw [e2]
    exact (ev_aload_n rfl rfl (en_iconst rfl rfl (ev_aload_n rfl rfl (ev_virtC rfl rfl rfl rfl rfl (oX11_k hp0) rfl rfl rfl (y := 14) rfl rfl ev (en_iconst rfl rfl (ev_ireti rfl rfl rfl))))))
theorem wr_354 {X : gv_X} {d : Nat} {G : gv_Sh} {A : Nat → Nat → Nat} {j : Nat → Nat → Int64} {cc : gv_Rs} {t : Nat → Nat} {R : Nat → Nat} (hp0 : oX11 G 0) (h279 : G.2.1 279 = (102, 1)) (p0 : cK A R) (p1 : A 0 1 ≤ 400) (p2 : ∀ i, i < A 0 1 → A 1 i < 256 ∧ t i = sx8 (A 1 i)) : ∃ (A1 : Nat → Nat → Nat) (j1 : Nat → Nat → Int64) (cc1 : gv_Rs), ((leP A A1 t (A 0 1) R)) ∧ ((spLa t (A 0 1) R).1 = 0 → j1 279 0 = (Int32.toInt64 (nI (spLa t (A 0 1) R).2))) ∧ (∀ q, q ≠ 279 → j1 q = j q) ∧ ccl cc cc1 ∧ (spLa t (A 0 1) R).1 ≤ 3 ∧ Ev X (d + 35) gvm_354 0 (gv_enter [.ref 0, .ref 279] 3) [] (G, (mI A, j), cc) (.inl (some (.int (nI (spLa t (A 0 1) R).1))), (G, (mI A1, j1), cc1)) := by
  obtain ⟨r, ev, A1, hq, rfl⟩ := c_law_p (X := X) (d := d) (G := G) (A := A) (j := j) (cc := cc)  (t := t) (R := R) (P := fun r => ∃ A1 : Nat → Nat → Nat, ((leP A A1 t (A 0 1) R)) ∧ r = oc (fun _ => 0) (spLa t (A 0 1) R).1 (spLa t (A 0 1) R).2 (G, (mI A1, j), cc)) hp0 p0 p1 p2 (fun A1 h => ⟨A1, h, rfl⟩)
  have ec : (spLa t (A 0 1) R).1 = 0 ∨ (spLa t (A 0 1) R).1 = 1 := by
    unfold spLa
    repeat' (first | exact Or.inl rfl | exact Or.inr rfl | exact Or.inr (Or.inl rfl) | exact Or.inr (Or.inr rfl) | exact Or.inr (Or.inr (Or.inl rfl)) | exact Or.inr (Or.inr (Or.inr rfl)) | split)
  rcases ec with e0 | e1
  · rw [oc_0 e0] at ev
    refine ⟨A1, gu j 279 0 (Int32.toInt64 (nI (spLa t (A 0 1) R).2)), cc, hq, fun _ => gu_hit _ _ _ _, fun q h => gu_row h, ccl_rf cc, by omega, ?_⟩
    rw [e0]
    exact (ev_aload_n rfl rfl (en_iconst rfl rfl (ev_aload_n rfl rfl (ev_virt rfl rfl rfl rfl rfl (oX11_k hp0) rfl rfl rfl ev (ev_i2l rfl (en_last rfl h279 (by decide) (by decide) (ev_goto rfl (en_iconst rfl rfl (ev_ireti rfl rfl rfl)))))))))
  · rw [oc_x (e := (fun _ => 0)) (m := 0) e1 (by decide) rfl] at ev
    refine ⟨A1, j, (1, cc.2.1 + 1, cc.2.2 + 6), hq, fun z => absurd (e1.symm.trans z) (by decide), fun q h => rfl, ⟨Nat.le_refl _, Nat.le_refl _⟩, by omega, ?_⟩
    rw [e1]
    exact (ev_aload_n rfl rfl (en_iconst rfl rfl (ev_aload_n rfl rfl (ev_virtC rfl rfl rfl rfl rfl (oX11_k hp0) rfl rfl rfl (y := 11) rfl rfl ev (en_iconst rfl rfl (ev_ireti rfl rfl rfl))))))
theorem wr_355 {X : gv_X} {d : Nat} {G : gv_Sh} {A : Nat → Nat → Nat} {j : Nat → Nat → Int64} {cc : gv_Rs} {p : Nat} {h : Nat} {R : Nat → Nat} (hp0 : oX11 G 0) (h279 : G.2.1 279 = (102, 1)) (p0 : cK A R) (p1 : p < 4294967296) (p2 : h < 4294967296) : ∃ (A1 : Nat → Nat → Nat) (j1 : Nat → Nat → Int64) (cc1 : gv_Rs), ((cK A1 R) ∧ (frK A A1)) ∧ ((spOp R p h).1 = 0 → j1 279 0 = (Int32.toInt64 (nI (spOp R p h).2))) ∧ (∀ q, q ≠ 279 → j1 q = j q) ∧ ccl cc cc1 ∧ (spOp R p h).1 ≤ 3 ∧ Ev X (d + 7) gvm_355 0 (gv_enter [.ref 0, .int (nI p), .int (nI h), .ref 279] 5) [] (G, (mI A, j), cc) (.inl (some (.int (nI (spOp R p h).1))), (G, (mI A1, j1), cc1)) := by
  obtain ⟨r, ev, A1, hq, rfl⟩ := c_op_p (X := X) (d := d) (G := G) (A := A) (j := j) (cc := cc) (p := p) (h := h) (R := R) (P := fun r => ∃ A1 : Nat → Nat → Nat, ((cK A1 R) ∧ (frK A A1)) ∧ r = oc (fun c => if c = 1 then 1 else 3) (spOp R p h).1 (spOp R p h).2 (G, (mI A1, j), cc)) hp0 p0 p1 p2 (fun A1 h => ⟨A1, h, rfl⟩)
  have ec : (spOp R p h).1 = 0 ∨ (spOp R p h).1 = 1 ∨ (spOp R p h).1 = 2 := by
    unfold spOp
    repeat' (first | exact Or.inl rfl | exact Or.inr rfl | exact Or.inr (Or.inl rfl) | exact Or.inr (Or.inr rfl) | exact Or.inr (Or.inr (Or.inl rfl)) | exact Or.inr (Or.inr (Or.inr rfl)) | split)
  rcases ec with e0 | e1 | e2
  · rw [oc_0 e0] at ev
    refine ⟨A1, gu j 279 0 (Int32.toInt64 (nI (spOp R p h).2)), cc, hq, fun _ => gu_hit _ _ _ _, fun q h => gu_row h, ccl_rf cc, by omega, ?_⟩
    rw [e0]
    exact (ev_aload_n rfl rfl (en_iconst rfl rfl (ev_aload_n rfl rfl (ev_iload_n rfl rfl (ev_iload_n rfl rfl (ev_virt rfl rfl rfl rfl rfl (oX11_k hp0) rfl rfl rfl ev (ev_i2l rfl (en_last rfl h279 (by decide) (by decide) (ev_goto rfl (en_iconst rfl rfl (ev_ireti rfl rfl rfl)))))))))))
  · rw [oc_x (e := (fun c => if c = 1 then 1 else 3)) (m := 1) e1 (by decide) rfl] at ev
    refine ⟨A1, j, (1, cc.2.1 + 1, cc.2.2 + 6), hq, fun z => absurd (e1.symm.trans z) (by decide), fun q h => rfl, ⟨Nat.le_refl _, Nat.le_refl _⟩, by omega, ?_⟩
    rw [e1]
    exact (ev_aload_n rfl rfl (en_iconst rfl rfl (ev_aload_n rfl rfl (ev_iload_n rfl rfl (ev_iload_n rfl rfl (ev_virtC rfl rfl rfl rfl rfl (oX11_k hp0) rfl rfl rfl (y := 13) rfl rfl ev (en_iconst rfl rfl (ev_ireti rfl rfl rfl))))))))
  · rw [oc_x (e := (fun c => if c = 1 then 1 else 3)) (m := 3) e2 (by decide) rfl] at ev
    refine ⟨A1, j, (1, cc.2.1 + 1, cc.2.2 + 6), hq, fun z => absurd (e2.symm.trans z) (by decide), fun q h => rfl, ⟨Nat.le_refl _, Nat.le_refl _⟩, by omega, ?_⟩
    rw [e2]
    exact (ev_aload_n rfl rfl (en_iconst rfl rfl (ev_aload_n rfl rfl (ev_iload_n rfl rfl (ev_iload_n rfl rfl (ev_virtC rfl rfl rfl rfl rfl (oX11_k hp0) rfl rfl rfl (y := 17) rfl rfl ev (en_iconst rfl rfl (ev_ireti rfl rfl rfl))))))))
theorem wr_356 {X : gv_X} {d : Nat} {G : gv_Sh} {A : Nat → Nat → Nat} {j : Nat → Nat → Int64} {cc : gv_Rs} {p : Nat} {k : Nat} {b : Bool} {R : Nat → Nat} (hp0 : oX11 G 0) (h279 : G.2.1 279 = (102, 1)) (p0 : cK A R) (p1 : p < 4294967296) (p2 : k < 4294967296) : ∃ (A1 : Nat → Nat → Nat) (j1 : Nat → Nat → Int64) (cc1 : gv_Rs), ((cK A1 R) ∧ (frK A A1)) ∧ ((spMicro R p k b).1 = 0 → j1 279 0 = (Int32.toInt64 (nI (spMicro R p k b).2))) ∧ (∀ q, q ≠ 279 → j1 q = j q) ∧ ccl cc cc1 ∧ (spMicro R p k b).1 ≤ 3 ∧ Ev X (d + 3) gvm_356 0 (gv_enter [.ref 0, .int (nI p), .int (nI k), .int (zo b), .ref 279] 6) [] (G, (mI A, j), cc) (.inl (some (.int (nI (spMicro R p k b).1))), (G, (mI A1, j1), cc1)) := by
  obtain ⟨r, ev, A1, hq, rfl⟩ := c_micro_p (X := X) (d := d) (G := G) (A := A) (j := j) (cc := cc) (p := p) (k := k) (b := b) (R := R) (P := fun r => ∃ A1 : Nat → Nat → Nat, ((cK A1 R) ∧ (frK A A1)) ∧ r = oc (fun _ => 1) (spMicro R p k b).1 (spMicro R p k b).2 (G, (mI A1, j), cc)) hp0 p0 p1 p2 (fun A1 h => ⟨A1, h, rfl⟩)
  have ec : (spMicro R p k b).1 = 0 ∨ (spMicro R p k b).1 = 1 := by
    unfold spMicro
    repeat' (first | exact Or.inl rfl | exact Or.inr rfl | exact Or.inr (Or.inl rfl) | exact Or.inr (Or.inr rfl) | exact Or.inr (Or.inr (Or.inl rfl)) | exact Or.inr (Or.inr (Or.inr rfl)) | split)
  rcases ec with e0 | e1
  · rw [oc_0 e0] at ev
    refine ⟨A1, gu j 279 0 (Int32.toInt64 (nI (spMicro R p k b).2)), cc, hq, fun _ => gu_hit _ _ _ _, fun q h => gu_row h, ccl_rf cc, by omega, ?_⟩
    rw [e0]
    exact (ev_aload rfl rfl (en_iconst rfl rfl (ev_aload_n rfl rfl (ev_iload_n rfl rfl (ev_iload_n rfl rfl (ev_iload_n rfl rfl (ev_virt rfl rfl rfl rfl rfl (oX11_k hp0) rfl rfl rfl ev (ev_i2l rfl (en_last rfl h279 (by decide) (by decide) (ev_goto rfl (en_iconst rfl rfl (ev_ireti rfl rfl rfl))))))))))))
  · rw [oc_x (e := (fun _ => 1)) (m := 1) e1 (by decide) rfl] at ev
    refine ⟨A1, j, (1, cc.2.1 + 1, cc.2.2 + 6), hq, fun z => absurd (e1.symm.trans z) (by decide), fun q h => rfl, ⟨Nat.le_refl _, Nat.le_refl _⟩, by omega, ?_⟩
    rw [e1]
    exact (ev_aload rfl rfl (en_iconst rfl rfl (ev_aload_n rfl rfl (ev_iload_n rfl rfl (ev_iload_n rfl rfl (ev_iload_n rfl rfl (ev_virtC rfl rfl rfl rfl rfl (oX11_k hp0) rfl rfl rfl (y := 15) rfl rfl ev (en_iconst rfl rfl (ev_ireti rfl rfl rfl)))))))))
theorem wr_357 {X : gv_X} {d : Nat} {G : gv_Sh} {A : Nat → Nat → Nat} {j : Nat → Nat → Int64} {cc : gv_Rs} {p : Nat} {h : Nat} {R : Nat → Nat} (hp0 : oX11 G 0) (h279 : G.2.1 279 = (102, 1)) (p0 : cK A R) (p1 : p < 4294967296) (p2 : h < 4294967296) : ∃ (A1 : Nat → Nat → Nat) (j1 : Nat → Nat → Int64) (cc1 : gv_Rs), ((cK A1 R) ∧ (frK A A1)) ∧ ((spWitness R p h).1 = 0 → j1 279 0 = (Int32.toInt64 (nI (spWitness R p h).2))) ∧ (∀ q, q ≠ 279 → j1 q = j q) ∧ ccl cc cc1 ∧ (spWitness R p h).1 ≤ 3 ∧ Ev X (d + 7) gvm_357 0 (gv_enter [.ref 0, .int (nI p), .int (nI h), .ref 279] 5) [] (G, (mI A, j), cc) (.inl (some (.int (nI (spWitness R p h).1))), (G, (mI A1, j1), cc1)) := by
  obtain ⟨r, ev, A1, hq, rfl⟩ := c_witness_p (X := X) (d := d) (G := G) (A := A) (j := j) (cc := cc) (p := p) (h := h) (R := R) (P := fun r => ∃ A1 : Nat → Nat → Nat, ((cK A1 R) ∧ (frK A A1)) ∧ r = oc (fun c => if c = 1 then 1 else 3) (spWitness R p h).1 (spWitness R p h).2 (G, (mI A1, j), cc)) hp0 p0 p1 p2 (fun A1 h => ⟨A1, h, rfl⟩)
  have ec : (spWitness R p h).1 = 0 ∨ (spWitness R p h).1 = 1 ∨ (spWitness R p h).1 = 2 := by
    unfold spWitness
    repeat' (first | exact Or.inl rfl | exact Or.inr rfl | exact Or.inr (Or.inl rfl) | exact Or.inr (Or.inr rfl) | exact Or.inr (Or.inr (Or.inl rfl)) | exact Or.inr (Or.inr (Or.inr rfl)) | split)
  rcases ec with e0 | e1 | e2
  · rw [oc_0 e0] at ev
    refine ⟨A1, gu j 279 0 (Int32.toInt64 (nI (spWitness R p h).2)), cc, hq, fun _ => gu_hit _ _ _ _, fun q h => gu_row h, ccl_rf cc, by omega, ?_⟩
    rw [e0]
    exact (ev_aload_n rfl rfl (en_iconst rfl rfl (ev_aload_n rfl rfl (ev_iload_n rfl rfl (ev_iload_n rfl rfl (ev_virt rfl rfl rfl rfl rfl (oX11_k hp0) rfl rfl rfl ev (ev_i2l rfl (en_last rfl h279 (by decide) (by decide) (ev_goto rfl (en_iconst rfl rfl (ev_ireti rfl rfl rfl)))))))))))
  · rw [oc_x (e := (fun c => if c = 1 then 1 else 3)) (m := 1) e1 (by decide) rfl] at ev
    refine ⟨A1, j, (1, cc.2.1 + 1, cc.2.2 + 6), hq, fun z => absurd (e1.symm.trans z) (by decide), fun q h => rfl, ⟨Nat.le_refl _, Nat.le_refl _⟩, by omega, ?_⟩
    rw [e1]
    exact (ev_aload_n rfl rfl (en_iconst rfl rfl (ev_aload_n rfl rfl (ev_iload_n rfl rfl (ev_iload_n rfl rfl (ev_virtC rfl rfl rfl rfl rfl (oX11_k hp0) rfl rfl rfl (y := 13) rfl rfl ev (en_iconst rfl rfl (ev_ireti rfl rfl rfl))))))))
  · rw [oc_x (e := (fun c => if c = 1 then 1 else 3)) (m := 3) e2 (by decide) rfl] at ev
    refine ⟨A1, j, (1, cc.2.1 + 1, cc.2.2 + 6), hq, fun z => absurd (e2.symm.trans z) (by decide), fun q h => rfl, ⟨Nat.le_refl _, Nat.le_refl _⟩, by omega, ?_⟩
    rw [e2]
    exact (ev_aload_n rfl rfl (en_iconst rfl rfl (ev_aload_n rfl rfl (ev_iload_n rfl rfl (ev_iload_n rfl rfl (ev_virtC rfl rfl rfl rfl rfl (oX11_k hp0) rfl rfl rfl (y := 17) rfl rfl ev (en_iconst rfl rfl (ev_ireti rfl rfl rfl))))))))
theorem wr_358 {X : gv_X} {d : Nat} {G : gv_Sh} {A : Nat → Nat → Nat} {j : Nat → Nat → Int64} {cc : gv_Rs} {p : Nat} {s : Nat} {h : Nat} {R : Nat → Nat} (hp0 : oX11 G 0) (h279 : G.2.1 279 = (102, 1)) (p0 : cK A R) (p1 : p < 4294967296) (p2 : s < 4294967296) (p3 : h < 4294967296) : ∃ (A1 : Nat → Nat → Nat) (j1 : Nat → Nat → Int64) (cc1 : gv_Rs), ((cK A1 R) ∧ (frK A A1)) ∧ ((spDone R p s h).1 = 0 → j1 279 0 = (Int32.toInt64 (nI (spDone R p s h).2))) ∧ (∀ q, q ≠ 279 → j1 q = j q) ∧ ccl cc cc1 ∧ (spDone R p s h).1 ≤ 3 ∧ Ev X (d + 4) gvm_358 0 (gv_enter [.ref 0, .int (nI p), .int (nI s), .int (nI h), .ref 279] 6) [] (G, (mI A, j), cc) (.inl (some (.int (nI (spDone R p s h).1))), (G, (mI A1, j1), cc1)) := by
  obtain ⟨r, ev, A1, hq, rfl⟩ := c_done_p (X := X) (d := d) (G := G) (A := A) (j := j) (cc := cc) (p := p) (s := s) (h := h) (R := R) (P := fun r => ∃ A1 : Nat → Nat → Nat, ((cK A1 R) ∧ (frK A A1)) ∧ r = oc (fun c => if c = 1 then 1 else if c = 2 then 0 else 3) (spDone R p s h).1 (spDone R p s h).2 (G, (mI A1, j), cc)) hp0 p0 p1 p2 p3 (fun A1 h => ⟨A1, h, rfl⟩)
  have ec : (spDone R p s h).1 = 0 ∨ (spDone R p s h).1 = 1 ∨ (spDone R p s h).1 = 2 ∨ (spDone R p s h).1 = 3 := by
    unfold spDone
    repeat' (first | exact Or.inl rfl | exact Or.inr rfl | exact Or.inr (Or.inl rfl) | exact Or.inr (Or.inr rfl) | exact Or.inr (Or.inr (Or.inl rfl)) | exact Or.inr (Or.inr (Or.inr rfl)) | split)
  rcases ec with e0 | e1 | e2 | e3
  · rw [oc_0 e0] at ev
    refine ⟨A1, gu j 279 0 (Int32.toInt64 (nI (spDone R p s h).2)), cc, hq, fun _ => gu_hit _ _ _ _, fun q h => gu_row h, ccl_rf cc, by omega, ?_⟩
    rw [e0]
    exact (ev_aload rfl rfl (en_iconst rfl rfl (ev_aload_n rfl rfl (ev_iload_n rfl rfl (ev_iload_n rfl rfl (ev_iload_n rfl rfl (ev_virt rfl rfl rfl rfl rfl (oX11_k hp0) rfl rfl rfl ev (ev_i2l rfl (en_last rfl h279 (by decide) (by decide) (ev_goto rfl (en_iconst rfl rfl (ev_ireti rfl rfl rfl))))))))))))
  · rw [oc_x (e := (fun c => if c = 1 then 1 else if c = 2 then 0 else 3)) (m := 1) e1 (by decide) rfl] at ev
    refine ⟨A1, j, (1, cc.2.1 + 1, cc.2.2 + 6), hq, fun z => absurd (e1.symm.trans z) (by decide), fun q h => rfl, ⟨Nat.le_refl _, Nat.le_refl _⟩, by omega, ?_⟩
    rw [e1]
    exact (ev_aload rfl rfl (en_iconst rfl rfl (ev_aload_n rfl rfl (ev_iload_n rfl rfl (ev_iload_n rfl rfl (ev_iload_n rfl rfl (ev_virtC rfl rfl rfl rfl rfl (oX11_k hp0) rfl rfl rfl (y := 15) rfl rfl ev (en_iconst rfl rfl (ev_ireti rfl rfl rfl)))))))))
  · rw [oc_x (e := (fun c => if c = 1 then 1 else if c = 2 then 0 else 3)) (m := 0) e2 (by decide) rfl] at ev
    refine ⟨A1, j, (1, cc.2.1 + 1, cc.2.2 + 6), hq, fun z => absurd (e2.symm.trans z) (by decide), fun q h => rfl, ⟨Nat.le_refl _, Nat.le_refl _⟩, by omega, ?_⟩
    rw [e2]
    exact (ev_aload rfl rfl (en_iconst rfl rfl (ev_aload_n rfl rfl (ev_iload_n rfl rfl (ev_iload_n rfl rfl (ev_iload_n rfl rfl (ev_virtC rfl rfl rfl rfl rfl (oX11_k hp0) rfl rfl rfl (y := 19) rfl rfl ev (en_iconst rfl rfl (ev_ireti rfl rfl rfl)))))))))
  · rw [oc_x (e := (fun c => if c = 1 then 1 else if c = 2 then 0 else 3)) (m := 3) e3 (by decide) rfl] at ev
    refine ⟨A1, j, (1, cc.2.1 + 1, cc.2.2 + 6), hq, fun z => absurd (e3.symm.trans z) (by decide), fun q h => rfl, ⟨Nat.le_refl _, Nat.le_refl _⟩, by omega, ?_⟩
    rw [e3]
    exact (ev_aload rfl rfl (en_iconst rfl rfl (ev_aload_n rfl rfl (ev_iload_n rfl rfl (ev_iload_n rfl rfl (ev_iload_n rfl rfl (ev_virtC rfl rfl rfl rfl rfl (oX11_k hp0) rfl rfl rfl (y := 23) rfl rfl ev (en_iconst rfl rfl (ev_ireti rfl rfl rfl)))))))))
theorem wr_359 {X : gv_X} {d : Nat} {G : gv_Sh} {A : Nat → Nat → Nat} {j : Nat → Nat → Int64} {cc : gv_Rs} {c : Nat} {R : Nat → Nat} (hp0 : oX11 G 0) (h279 : G.2.1 279 = (102, 1)) (p0 : cK A R) (p1 : c < 4294967296) : ∃ (A1 : Nat → Nat → Nat) (j1 : Nat → Nat → Int64) (cc1 : gv_Rs), ((cK A1 R) ∧ (frK A A1)) ∧ ((spCell R c).1 = 0 → j1 279 0 = (Int32.toInt64 (nI (spCell R c).2))) ∧ (∀ q, q ≠ 279 → j1 q = j q) ∧ ccl cc cc1 ∧ (spCell R c).1 ≤ 3 ∧ Ev X (d + 2) gvm_359 0 (gv_enter [.ref 0, .int (nI c), .ref 279] 4) [] (G, (mI A, j), cc) (.inl (some (.int (nI (spCell R c).1))), (G, (mI A1, j1), cc1)) := by
  obtain ⟨r, ev, A1, hq, rfl⟩ := c_cell_p (X := X) (d := d) (G := G) (A := A) (j := j) (cc := cc) (c := c) (R := R) (P := fun r => ∃ A1 : Nat → Nat → Nat, ((cK A1 R) ∧ (frK A A1)) ∧ r = oc (fun _ => 1) (spCell R c).1 (spCell R c).2 (G, (mI A1, j), cc)) hp0 p0 p1 (fun A1 h => ⟨A1, h, rfl⟩)
  have ec : (spCell R c).1 = 0 ∨ (spCell R c).1 = 1 := by
    unfold spCell
    repeat' (first | exact Or.inl rfl | exact Or.inr rfl | exact Or.inr (Or.inl rfl) | exact Or.inr (Or.inr rfl) | exact Or.inr (Or.inr (Or.inl rfl)) | exact Or.inr (Or.inr (Or.inr rfl)) | split)
  rcases ec with e0 | e1
  · rw [oc_0 e0] at ev
    refine ⟨A1, gu j 279 0 (Int32.toInt64 (nI (spCell R c).2)), cc, hq, fun _ => gu_hit _ _ _ _, fun q h => gu_row h, ccl_rf cc, by omega, ?_⟩
    rw [e0]
    exact (ev_aload_n rfl rfl (en_iconst rfl rfl (ev_aload_n rfl rfl (ev_iload_n rfl rfl (ev_virt rfl rfl rfl rfl rfl (oX11_k hp0) rfl rfl rfl ev (ev_i2l rfl (en_last rfl h279 (by decide) (by decide) (ev_goto rfl (en_iconst rfl rfl (ev_ireti rfl rfl rfl))))))))))
  · rw [oc_x (e := (fun _ => 1)) (m := 1) e1 (by decide) rfl] at ev
    refine ⟨A1, j, (1, cc.2.1 + 1, cc.2.2 + 6), hq, fun z => absurd (e1.symm.trans z) (by decide), fun q h => rfl, ⟨Nat.le_refl _, Nat.le_refl _⟩, by omega, ?_⟩
    rw [e1]
    exact (ev_aload_n rfl rfl (en_iconst rfl rfl (ev_aload_n rfl rfl (ev_iload_n rfl rfl (ev_virtC rfl rfl rfl rfl rfl (oX11_k hp0) rfl rfl rfl (y := 12) rfl rfl ev (en_iconst rfl rfl (ev_ireti rfl rfl rfl)))))))
theorem wr_360 {X : gv_X} {d : Nat} {G : gv_Sh} {A : Nat → Nat → Nat} {j : Nat → Nat → Int64} {cc : gv_Rs} {b : Bool} {h : Nat} {R : Nat → Nat} (hp0 : oX11 G 0) (h279 : G.2.1 279 = (102, 1)) (p0 : cK A R) (p1 : h < 4294967296) : ∃ (A1 : Nat → Nat → Nat) (j1 : Nat → Nat → Int64) (cc1 : gv_Rs), ((cK A1 R) ∧ (frK A A1)) ∧ ((spGuest R b h).1 = 0 → j1 279 0 = (Int32.toInt64 (nI (spGuest R b h).2))) ∧ (∀ q, q ≠ 279 → j1 q = j q) ∧ ccl cc cc1 ∧ (spGuest R b h).1 ≤ 3 ∧ Ev X (d + 2) gvm_360 0 (gv_enter [.ref 0, .int (zo b), .int (nI h), .ref 279] 5) [] (G, (mI A, j), cc) (.inl (some (.int (nI (spGuest R b h).1))), (G, (mI A1, j1), cc1)) := by
  obtain ⟨r, ev, A1, hq, rfl⟩ := c_guest_p (X := X) (d := d) (G := G) (A := A) (j := j) (cc := cc) (b := b) (h := h) (R := R) (P := fun r => ∃ A1 : Nat → Nat → Nat, ((cK A1 R) ∧ (frK A A1)) ∧ r = oc (fun _ => 3) (spGuest R b h).1 (spGuest R b h).2 (G, (mI A1, j), cc)) hp0 p0 p1 (fun A1 h => ⟨A1, h, rfl⟩)
  have ec : (spGuest R b h).1 = 0 ∨ (spGuest R b h).1 = 1 := by
    unfold spGuest
    repeat' (first | exact Or.inl rfl | exact Or.inr rfl | exact Or.inr (Or.inl rfl) | exact Or.inr (Or.inr rfl) | exact Or.inr (Or.inr (Or.inl rfl)) | exact Or.inr (Or.inr (Or.inr rfl)) | split)
  rcases ec with e0 | e1
  · rw [oc_0 e0] at ev
    refine ⟨A1, gu j 279 0 (Int32.toInt64 (nI (spGuest R b h).2)), cc, hq, fun _ => gu_hit _ _ _ _, fun q h => gu_row h, ccl_rf cc, by omega, ?_⟩
    rw [e0]
    exact (ev_aload_n rfl rfl (en_iconst rfl rfl (ev_aload_n rfl rfl (ev_iload_n rfl rfl (ev_iload_n rfl rfl (ev_virt rfl rfl rfl rfl rfl (oX11_k hp0) rfl rfl rfl ev (ev_i2l rfl (en_last rfl h279 (by decide) (by decide) (ev_goto rfl (en_iconst rfl rfl (ev_ireti rfl rfl rfl)))))))))))
  · rw [oc_x (e := (fun _ => 3)) (m := 3) e1 (by decide) rfl] at ev
    refine ⟨A1, j, (1, cc.2.1 + 1, cc.2.2 + 6), hq, fun z => absurd (e1.symm.trans z) (by decide), fun q h => rfl, ⟨Nat.le_refl _, Nat.le_refl _⟩, by omega, ?_⟩
    rw [e1]
    exact (ev_aload_n rfl rfl (en_iconst rfl rfl (ev_aload_n rfl rfl (ev_iload_n rfl rfl (ev_iload_n rfl rfl (ev_virtC rfl rfl rfl rfl rfl (oX11_k hp0) rfl rfl rfl (y := 13) rfl rfl ev (en_iconst rfl rfl (ev_ireti rfl rfl rfl))))))))
