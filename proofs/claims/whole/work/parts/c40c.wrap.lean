/-! wrappers -/
theorem wr_369 {X : gv_X} {d : Nat} {G : gv_Sh} {A : Nat → Nat → Nat} {j : Nat → Nat → Int64} {cc : gv_Rs} {n : Nat} {R : Nat → Nat} {Q : Nat → Nat → Nat} (hp0 : oX11 G 0) (h279 : G.2.1 279 = (102, 1)) (p0 : cK A R) (p1 : hI A Q) (p2 : n < 4294967296) : ∃ (A1 : Nat → Nat → Nat) (j1 : Nat → Nat → Int64) (cc1 : gv_Rs), ((acT (spS 100 n (R 7)).1 A A1 R (boR (seR R 7 n)) Q) ∧ (frJ A A1)) ∧ ((spS 100 n (R 7)).1 = 0 → j1 279 0 = (Int32.toInt64 (nI (spS 100 n (R 7)).2))) ∧ (∀ q, q ≠ 279 → j1 q = j q) ∧ ccl cc cc1 ∧ (spS 100 n (R 7)).1 ≤ 3 ∧ Ev X (d + 4) gvm_369 0 (gv_enter [.ref 0, .int (nI n), .ref 279] 4) [] (G, (mI A, j), cc) (.inl (some (.int (nI (spS 100 n (R 7)).1))), (G, (mI A1, j1), cc1)) := by
  obtain ⟨r, ev, A1, hq, rfl⟩ := c_alarm_p (X := X) (d := d) (G := G) (A := A) (j := j) (cc := cc) (n := n) (R := R) (Q := Q) (P := fun r => ∃ A1 : Nat → Nat → Nat, ((acT (spS 100 n (R 7)).1 A A1 R (boR (seR R 7 n)) Q) ∧ (frJ A A1)) ∧ r = oc (fun _ => 0) (spS 100 n (R 7)).1 (spS 100 n (R 7)).2 (G, (mI A1, j), cc)) hp0 p0 p1 p2 (fun A1 h => ⟨A1, h, rfl⟩)
  have ec : (spS 100 n (R 7)).1 = 0 ∨ (spS 100 n (R 7)).1 = 1 := by
    unfold spS
    repeat' (first | exact Or.inl rfl | exact Or.inr rfl | exact Or.inr (Or.inl rfl) | exact Or.inr (Or.inr rfl) | exact Or.inr (Or.inr (Or.inl rfl)) | exact Or.inr (Or.inr (Or.inr rfl)) | split)
  rcases ec with e0 | e1
  · rw [oc_0 e0] at ev
    refine ⟨A1, gu j 279 0 (Int32.toInt64 (nI (spS 100 n (R 7)).2)), cc, hq, fun _ => gu_hit _ _ _ _, fun q h => gu_row h, ccl_rf cc, by omega, ?_⟩
    rw [e0]
    exact (ev_aload_n rfl rfl (en_iconst rfl rfl (ev_aload_n rfl rfl (ev_iload_n rfl rfl (ev_virt rfl rfl rfl rfl rfl (oX11_k hp0) rfl rfl rfl ev (ev_i2l rfl (en_last rfl h279 (by decide) (by decide) (ev_goto rfl (en_iconst rfl rfl (ev_ireti rfl rfl rfl))))))))))
  · rw [oc_x (e := (fun _ => 0)) (m := 0) e1 (by decide) rfl] at ev
    refine ⟨A1, j, (1, cc.2.1 + 1, cc.2.2 + 6), hq, fun z => absurd (e1.symm.trans z) (by decide), fun q h => rfl, ⟨Nat.le_refl _, Nat.le_refl _⟩, by omega, ?_⟩
    rw [e1]
    exact (ev_aload_n rfl rfl (en_iconst rfl rfl (ev_aload_n rfl rfl (ev_iload_n rfl rfl (ev_virtC rfl rfl rfl rfl rfl (oX11_k hp0) rfl rfl rfl (y := 12) rfl rfl ev (en_iconst rfl rfl (ev_ireti rfl rfl rfl)))))))
theorem wr_370 {X : gv_X} {d : Nat} {G : gv_Sh} {A : Nat → Nat → Nat} {j : Nat → Nat → Int64} {cc : gv_Rs} {n : Nat} {R : Nat → Nat} (hp0 : oX11 G 0) (h279 : G.2.1 279 = (102, 1)) (p0 : cK A R) (p1 : n < 4294967296) : ∃ (A1 : Nat → Nat → Nat) (j1 : Nat → Nat → Int64) (cc1 : gv_Rs), ((cK A1 R) ∧ (frK A A1)) ∧ ((spTraps R n).1 = 0 → j1 279 0 = (Int32.toInt64 (nI (spTraps R n).2))) ∧ (∀ q, q ≠ 279 → j1 q = j q) ∧ ccl cc cc1 ∧ (spTraps R n).1 ≤ 3 ∧ Ev X (d + 8) gvm_370 0 (gv_enter [.ref 0, .int (nI n), .ref 279] 4) [] (G, (mI A, j), cc) (.inl (some (.int (nI (spTraps R n).1))), (G, (mI A1, j1), cc1)) := by
  obtain ⟨r, ev, A1, hq, rfl⟩ := c_traps_p (X := X) (d := d) (G := G) (A := A) (j := j) (cc := cc) (n := n) (R := R) (P := fun r => ∃ A1 : Nat → Nat → Nat, ((cK A1 R) ∧ (frK A A1)) ∧ r = oc (fun _ => 0) (spTraps R n).1 (spTraps R n).2 (G, (mI A1, j), cc)) hp0 p0 p1 (fun A1 h => ⟨A1, h, rfl⟩)
  have ec : (spTraps R n).1 = 0 ∨ (spTraps R n).1 = 1 := by
    unfold spTraps
    repeat' (first | exact Or.inl rfl | exact Or.inr rfl | exact Or.inr (Or.inl rfl) | exact Or.inr (Or.inr rfl) | exact Or.inr (Or.inr (Or.inl rfl)) | exact Or.inr (Or.inr (Or.inr rfl)) | split)
  rcases ec with e0 | e1
  · rw [oc_0 e0] at ev
    refine ⟨A1, gu j 279 0 (Int32.toInt64 (nI (spTraps R n).2)), cc, hq, fun _ => gu_hit _ _ _ _, fun q h => gu_row h, ccl_rf cc, by omega, ?_⟩
    rw [e0]
    exact (ev_aload_n rfl rfl (en_iconst rfl rfl (ev_aload_n rfl rfl (ev_iload_n rfl rfl (ev_virt rfl rfl rfl rfl rfl (oX11_k hp0) rfl rfl rfl ev (ev_i2l rfl (en_last rfl h279 (by decide) (by decide) (ev_goto rfl (en_iconst rfl rfl (ev_ireti rfl rfl rfl))))))))))
  · rw [oc_x (e := (fun _ => 0)) (m := 0) e1 (by decide) rfl] at ev
    refine ⟨A1, j, (1, cc.2.1 + 1, cc.2.2 + 6), hq, fun z => absurd (e1.symm.trans z) (by decide), fun q h => rfl, ⟨Nat.le_refl _, Nat.le_refl _⟩, by omega, ?_⟩
    rw [e1]
    exact (ev_aload_n rfl rfl (en_iconst rfl rfl (ev_aload_n rfl rfl (ev_iload_n rfl rfl (ev_virtC rfl rfl rfl rfl rfl (oX11_k hp0) rfl rfl rfl (y := 12) rfl rfl ev (en_iconst rfl rfl (ev_ireti rfl rfl rfl)))))))
theorem wr_371 {X : gv_X} {d : Nat} {G : gv_Sh} {A : Nat → Nat → Nat} {j : Nat → Nat → Int64} {cc : gv_Rs} {n : Nat} {d5 : Nat} {R : Nat → Nat} (hp0 : oX11 G 0) (h279 : G.2.1 279 = (102, 1)) (p0 : cK A R) (p1 : n < 4294967296) (p2 : d5 < 4294967296) : ∃ (A1 : Nat → Nat → Nat) (j1 : Nat → Nat → Int64) (cc1 : gv_Rs), ((cK A1 R) ∧ (frK A A1)) ∧ ((spDepth R n d5).1 = 0 → j1 279 0 = (Int32.toInt64 (nI (spDepth R n d5).2))) ∧ (∀ q, q ≠ 279 → j1 q = j q) ∧ ccl cc cc1 ∧ (spDepth R n d5).1 ≤ 3 ∧ Ev X (d + 8) gvm_371 0 (gv_enter [.ref 0, .int (nI n), .int (nI d5), .ref 279] 5) [] (G, (mI A, j), cc) (.inl (some (.int (nI (spDepth R n d5).1))), (G, (mI A1, j1), cc1)) := by
  obtain ⟨r, ev, A1, hq, rfl⟩ := c_depth_p (X := X) (d := d) (G := G) (A := A) (j := j) (cc := cc) (n := n) (d5 := d5) (R := R) (P := fun r => ∃ A1 : Nat → Nat → Nat, ((cK A1 R) ∧ (frK A A1)) ∧ r = oc (fun _ => 0) (spDepth R n d5).1 (spDepth R n d5).2 (G, (mI A1, j), cc)) hp0 p0 p1 p2 (fun A1 h => ⟨A1, h, rfl⟩)
  have ec : (spDepth R n d5).1 = 0 ∨ (spDepth R n d5).1 = 1 := by
    unfold spDepth
    repeat' (first | exact Or.inl rfl | exact Or.inr rfl | exact Or.inr (Or.inl rfl) | exact Or.inr (Or.inr rfl) | exact Or.inr (Or.inr (Or.inl rfl)) | exact Or.inr (Or.inr (Or.inr rfl)) | split)
  rcases ec with e0 | e1
  · rw [oc_0 e0] at ev
    refine ⟨A1, gu j 279 0 (Int32.toInt64 (nI (spDepth R n d5).2)), cc, hq, fun _ => gu_hit _ _ _ _, fun q h => gu_row h, ccl_rf cc, by omega, ?_⟩
    rw [e0]
    exact (ev_aload_n rfl rfl (en_iconst rfl rfl (ev_aload_n rfl rfl (ev_iload_n rfl rfl (ev_iload_n rfl rfl (ev_virt rfl rfl rfl rfl rfl (oX11_k hp0) rfl rfl rfl ev (ev_i2l rfl (en_last rfl h279 (by decide) (by decide) (ev_goto rfl (en_iconst rfl rfl (ev_ireti rfl rfl rfl)))))))))))
  · rw [oc_x (e := (fun _ => 0)) (m := 0) e1 (by decide) rfl] at ev
    refine ⟨A1, j, (1, cc.2.1 + 1, cc.2.2 + 6), hq, fun z => absurd (e1.symm.trans z) (by decide), fun q h => rfl, ⟨Nat.le_refl _, Nat.le_refl _⟩, by omega, ?_⟩
    rw [e1]
    exact (ev_aload_n rfl rfl (en_iconst rfl rfl (ev_aload_n rfl rfl (ev_iload_n rfl rfl (ev_iload_n rfl rfl (ev_virtC rfl rfl rfl rfl rfl (oX11_k hp0) rfl rfl rfl (y := 13) rfl rfl ev (en_iconst rfl rfl (ev_ireti rfl rfl rfl))))))))
theorem wr_372 {X : gv_X} {d : Nat} {G : gv_Sh} {A : Nat → Nat → Nat} {j : Nat → Nat → Int64} {cc : gv_Rs} {a : Nat} {b : Nat} {R : Nat → Nat} (hp0 : oX11 G 0) (h279 : G.2.1 279 = (102, 1)) (p0 : cK A R) (p1 : a < 4294967296) (p2 : b < 4294967296) : ∃ (A1 : Nat → Nat → Nat) (j1 : Nat → Nat → Int64) (cc1 : gv_Rs), ((cK A1 R) ∧ (frK A A1)) ∧ ((spClash R a b).1 = 0 → j1 279 0 = (Int64.ofNat (spClash R a b).2.toNat)) ∧ (∀ q, q ≠ 279 → j1 q = j q) ∧ ccl cc cc1 ∧ (spClash R a b).1 ≤ 3 ∧ Ev X (d + 5) gvm_372 0 (gv_enter [.ref 0, .int (nI a), .int (nI b), .ref 279] 5) [] (G, (mI A, j), cc) (.inl (some (.int (nI (spClash R a b).1))), (G, (mI A1, j1), cc1)) := by
  obtain ⟨r, ev, A1, hq, rfl⟩ := c_clash_p (X := X) (d := d) (G := G) (A := A) (j := j) (cc := cc) (a := a) (b := b) (R := R) (P := fun r => ∃ A1 : Nat → Nat → Nat, ((cK A1 R) ∧ (frK A A1)) ∧ r = oc (fun c => if c = 1 then 1 else 0) (spClash R a b).1 (spClash R a b).2.toNat (G, (mI A1, j), cc)) hp0 p0 p1 p2 (fun A1 h => ⟨A1, h, rfl⟩)
  have ec : (spClash R a b).1 = 0 ∨ (spClash R a b).1 = 1 ∨ (spClash R a b).1 = 2 := by
    unfold spClash
    repeat' (first | exact Or.inl rfl | exact Or.inr rfl | exact Or.inr (Or.inl rfl) | exact Or.inr (Or.inr rfl) | exact Or.inr (Or.inr (Or.inl rfl)) | exact Or.inr (Or.inr (Or.inr rfl)) | split)
  rcases ec with e0 | e1 | e2
  · rw [oc_0 e0] at ev
    refine ⟨A1, gu j 279 0 (Int64.ofNat (spClash R a b).2.toNat), cc, hq, fun _ => gu_hit _ _ _ _, fun q h => gu_row h, ccl_rf cc, by omega, ?_⟩
    rw [e0]
    cases hb : (spClash R a b).2 with
    | true =>
      rw [hb] at ev
      exact (ev_aload_n rfl rfl (en_iconst rfl rfl (ev_aload_n rfl rfl (ev_iload_n rfl rfl (ev_iload_n rfl rfl (ev_virt rfl rfl rfl rfl rfl (oX11_k hp0) rfl rfl rfl ev (ev_if_eq rfl (fun e => absurd e (by decide)) (fun _ => (ev_lconst rfl (ev_goto rfl (en_last rfl h279 (by decide) (by decide) (ev_goto rfl (en_iconst rfl rfl (ev_ireti rfl rfl rfl))))))))))))))
    | false =>
      rw [hb] at ev
      exact (ev_aload_n rfl rfl (en_iconst rfl rfl (ev_aload_n rfl rfl (ev_iload_n rfl rfl (ev_iload_n rfl rfl (ev_virt rfl rfl rfl rfl rfl (oX11_k hp0) rfl rfl rfl ev (ev_if_eq rfl (fun _ => (ev_lconst rfl (en_last rfl h279 (by decide) (by decide) (ev_goto rfl (en_iconst rfl rfl (ev_ireti rfl rfl rfl)))))) (fun e => absurd rfl e))))))))
  · rw [oc_x (e := (fun c => if c = 1 then 1 else 0)) (m := 1) e1 (by decide) rfl] at ev
    refine ⟨A1, j, (1, cc.2.1 + 1, cc.2.2 + 6), hq, fun z => absurd (e1.symm.trans z) (by decide), fun q h => rfl, ⟨Nat.le_refl _, Nat.le_refl _⟩, by omega, ?_⟩
    rw [e1]
    exact (ev_aload_n rfl rfl (en_iconst rfl rfl (ev_aload_n rfl rfl (ev_iload_n rfl rfl (ev_iload_n rfl rfl (ev_virtC rfl rfl rfl rfl rfl (oX11_k hp0) rfl rfl rfl (y := 20) rfl rfl ev (en_iconst rfl rfl (ev_ireti rfl rfl rfl))))))))
  · rw [oc_x (e := (fun c => if c = 1 then 1 else 0)) (m := 0) e2 (by decide) rfl] at ev
    refine ⟨A1, j, (1, cc.2.1 + 1, cc.2.2 + 6), hq, fun z => absurd (e2.symm.trans z) (by decide), fun q h => rfl, ⟨Nat.le_refl _, Nat.le_refl _⟩, by omega, ?_⟩
    rw [e2]
    exact (ev_aload_n rfl rfl (en_iconst rfl rfl (ev_aload_n rfl rfl (ev_iload_n rfl rfl (ev_iload_n rfl rfl (ev_virtC rfl rfl rfl rfl rfl (oX11_k hp0) rfl rfl rfl (y := 24) rfl rfl ev (en_iconst rfl rfl (ev_ireti rfl rfl rfl))))))))
theorem wr_373 {X : gv_X} {d : Nat} {G : gv_Sh} {A : Nat → Nat → Nat} {j : Nat → Nat → Int64} {cc : gv_Rs} {t : Nat → Nat} {R : Nat → Nat} (hp0 : oX11 G 0) (h279 : G.2.1 279 = (102, 1)) (p0 : cK A R) (p1 : A 0 1 ≤ 400) (p2 : ∀ i, i < A 0 1 → A 1 i < 256 ∧ t i = sx8 (A 1 i)) : ∃ (A1 : Nat → Nat → Nat) (j1 : Nat → Nat → Int64) (cc1 : gv_Rs), ((cK A1 R) ∧ (frT2 A A1)) ∧ ((spWhich R t (A 0 1)).1 = 0 → j1 279 0 = (Int32.toInt64 (nI (spWhich R t (A 0 1)).2))) ∧ (∀ q, q ≠ 279 → j1 q = j q) ∧ ccl cc cc1 ∧ (spWhich R t (A 0 1)).1 ≤ 3 ∧ Ev X (d + 8) gvm_373 0 (gv_enter [.ref 0, .ref 279] 3) [] (G, (mI A, j), cc) (.inl (some (.int (nI (spWhich R t (A 0 1)).1))), (G, (mI A1, j1), cc1)) := by
  obtain ⟨r, ev, A1, hq, rfl⟩ := c_which_p (X := X) (d := d) (G := G) (A := A) (j := j) (cc := cc)  (t := t) (R := R) (P := fun r => ∃ A1 : Nat → Nat → Nat, ((cK A1 R) ∧ (frT2 A A1)) ∧ r = oc (fun _ => 0) (spWhich R t (A 0 1)).1 (spWhich R t (A 0 1)).2 (G, (mI A1, j), cc)) hp0 p0 p1 p2 (fun A1 h => ⟨A1, h, rfl⟩)
  have ec : (spWhich R t (A 0 1)).1 = 0 ∨ (spWhich R t (A 0 1)).1 = 1 := by
    unfold spWhich
    repeat' (first | exact Or.inl rfl | exact Or.inr rfl | exact Or.inr (Or.inl rfl) | exact Or.inr (Or.inr rfl) | exact Or.inr (Or.inr (Or.inl rfl)) | exact Or.inr (Or.inr (Or.inr rfl)) | split)
  rcases ec with e0 | e1
  · rw [oc_0 e0] at ev
    refine ⟨A1, gu j 279 0 (Int32.toInt64 (nI (spWhich R t (A 0 1)).2)), cc, hq, fun _ => gu_hit _ _ _ _, fun q h => gu_row h, ccl_rf cc, by omega, ?_⟩
    rw [e0]
    exact (ev_aload_n rfl rfl (en_iconst rfl rfl (ev_aload_n rfl rfl (ev_virt rfl rfl rfl rfl rfl (oX11_k hp0) rfl rfl rfl ev (ev_i2l rfl (en_last rfl h279 (by decide) (by decide) (ev_goto rfl (en_iconst rfl rfl (ev_ireti rfl rfl rfl)))))))))
  · rw [oc_x (e := (fun _ => 0)) (m := 0) e1 (by decide) rfl] at ev
    refine ⟨A1, j, (1, cc.2.1 + 1, cc.2.2 + 6), hq, fun z => absurd (e1.symm.trans z) (by decide), fun q h => rfl, ⟨Nat.le_refl _, Nat.le_refl _⟩, by omega, ?_⟩
    rw [e1]
    exact (ev_aload_n rfl rfl (en_iconst rfl rfl (ev_aload_n rfl rfl (ev_virtC rfl rfl rfl rfl rfl (oX11_k hp0) rfl rfl rfl (y := 11) rfl rfl ev (en_iconst rfl rfl (ev_ireti rfl rfl rfl))))))
theorem wr_374 {X : gv_X} {d : Nat} {G : gv_Sh} {A : Nat → Nat → Nat} {j : Nat → Nat → Int64} {cc : gv_Rs} {t : Nat → Nat} {R : Nat → Nat} (hp0 : oX11 G 0) (h279 : G.2.1 279 = (102, 1)) (p0 : cK A R) (p1 : A 0 1 ≤ 400) (p2 : ∀ i, i < A 0 1 → A 1 i < 256 ∧ t i = sx8 (A 1 i)) : ∃ (A1 : Nat → Nat → Nat) (j1 : Nat → Nat → Int64) (cc1 : gv_Rs), ((cK A1 R) ∧ (frT2 A A1)) ∧ ((spLikely R t (A 0 1)).1 = 0 → j1 279 0 = (Int32.toInt64 (nI (spLikely R t (A 0 1)).2))) ∧ (∀ q, q ≠ 279 → j1 q = j q) ∧ ccl cc cc1 ∧ (spLikely R t (A 0 1)).1 ≤ 3 ∧ Ev X (d + 8) gvm_374 0 (gv_enter [.ref 0, .ref 279] 3) [] (G, (mI A, j), cc) (.inl (some (.int (nI (spLikely R t (A 0 1)).1))), (G, (mI A1, j1), cc1)) := by
  obtain ⟨r, ev, A1, hq, rfl⟩ := c_likely_p (X := X) (d := d) (G := G) (A := A) (j := j) (cc := cc)  (t := t) (R := R) (P := fun r => ∃ A1 : Nat → Nat → Nat, ((cK A1 R) ∧ (frT2 A A1)) ∧ r = oc (fun _ => 0) (spLikely R t (A 0 1)).1 (spLikely R t (A 0 1)).2 (G, (mI A1, j), cc)) hp0 p0 p1 p2 (fun A1 h => ⟨A1, h, rfl⟩)
  have ec : (spLikely R t (A 0 1)).1 = 0 ∨ (spLikely R t (A 0 1)).1 = 1 := by
    unfold spLikely
    repeat' (first | exact Or.inl rfl | exact Or.inr rfl | exact Or.inr (Or.inl rfl) | exact Or.inr (Or.inr rfl) | exact Or.inr (Or.inr (Or.inl rfl)) | exact Or.inr (Or.inr (Or.inr rfl)) | split)
  rcases ec with e0 | e1
  · rw [oc_0 e0] at ev
    refine ⟨A1, gu j 279 0 (Int32.toInt64 (nI (spLikely R t (A 0 1)).2)), cc, hq, fun _ => gu_hit _ _ _ _, fun q h => gu_row h, ccl_rf cc, by omega, ?_⟩
    rw [e0]
    exact (ev_aload_n rfl rfl (en_iconst rfl rfl (ev_aload_n rfl rfl (ev_virt rfl rfl rfl rfl rfl (oX11_k hp0) rfl rfl rfl ev (ev_i2l rfl (en_last rfl h279 (by decide) (by decide) (ev_goto rfl (en_iconst rfl rfl (ev_ireti rfl rfl rfl)))))))))
  · rw [oc_x (e := (fun _ => 0)) (m := 0) e1 (by decide) rfl] at ev
    refine ⟨A1, j, (1, cc.2.1 + 1, cc.2.2 + 6), hq, fun z => absurd (e1.symm.trans z) (by decide), fun q h => rfl, ⟨Nat.le_refl _, Nat.le_refl _⟩, by omega, ?_⟩
    rw [e1]
    exact (ev_aload_n rfl rfl (en_iconst rfl rfl (ev_aload_n rfl rfl (ev_virtC rfl rfl rfl rfl rfl (oX11_k hp0) rfl rfl rfl (y := 11) rfl rfl ev (en_iconst rfl rfl (ev_ireti rfl rfl rfl))))))
theorem wr_375 {X : gv_X} {d : Nat} {G : gv_Sh} {A : Nat → Nat → Nat} {j : Nat → Nat → Int64} {cc : gv_Rs} {t : Nat → Nat} {R : Nat → Nat} (hp0 : oX11 G 0) (h279 : G.2.1 279 = (102, 1)) (p0 : cK A R) (p1 : A 0 1 ≤ 400) (p2 : ∀ i, i < A 0 1 → A 1 i < 256 ∧ t i = sx8 (A 1 i)) : ∃ (A1 : Nat → Nat → Nat) (j1 : Nat → Nat → Int64) (cc1 : gv_Rs), ((cK A1 R) ∧ (frT2 A A1)) ∧ ((spAsk R t (A 0 1)).1 = 0 → j1 279 0 = (Int32.toInt64 (nI (spAsk R t (A 0 1)).2))) ∧ (∀ q, q ≠ 279 → j1 q = j q) ∧ ccl cc cc1 ∧ (spAsk R t (A 0 1)).1 ≤ 3 ∧ Ev X (d + 8) gvm_375 0 (gv_enter [.ref 0, .ref 279] 3) [] (G, (mI A, j), cc) (.inl (some (.int (nI (spAsk R t (A 0 1)).1))), (G, (mI A1, j1), cc1)) := by
  obtain ⟨r, ev, A1, hq, rfl⟩ := c_ask_p (X := X) (d := d) (G := G) (A := A) (j := j) (cc := cc)  (t := t) (R := R) (P := fun r => ∃ A1 : Nat → Nat → Nat, ((cK A1 R) ∧ (frT2 A A1)) ∧ r = oc (fun _ => 0) (spAsk R t (A 0 1)).1 (spAsk R t (A 0 1)).2 (G, (mI A1, j), cc)) hp0 p0 p1 p2 (fun A1 h => ⟨A1, h, rfl⟩)
  have ec : (spAsk R t (A 0 1)).1 = 0 ∨ (spAsk R t (A 0 1)).1 = 1 := by
    unfold spAsk
    repeat' (first | exact Or.inl rfl | exact Or.inr rfl | exact Or.inr (Or.inl rfl) | exact Or.inr (Or.inr rfl) | exact Or.inr (Or.inr (Or.inl rfl)) | exact Or.inr (Or.inr (Or.inr rfl)) | split)
  rcases ec with e0 | e1
  · rw [oc_0 e0] at ev
    refine ⟨A1, gu j 279 0 (Int32.toInt64 (nI (spAsk R t (A 0 1)).2)), cc, hq, fun _ => gu_hit _ _ _ _, fun q h => gu_row h, ccl_rf cc, by omega, ?_⟩
    rw [e0]
    exact (ev_aload_n rfl rfl (en_iconst rfl rfl (ev_aload_n rfl rfl (ev_virt rfl rfl rfl rfl rfl (oX11_k hp0) rfl rfl rfl ev (ev_i2l rfl (en_last rfl h279 (by decide) (by decide) (ev_goto rfl (en_iconst rfl rfl (ev_ireti rfl rfl rfl)))))))))
  · rw [oc_x (e := (fun _ => 0)) (m := 0) e1 (by decide) rfl] at ev
    refine ⟨A1, j, (1, cc.2.1 + 1, cc.2.2 + 6), hq, fun z => absurd (e1.symm.trans z) (by decide), fun q h => rfl, ⟨Nat.le_refl _, Nat.le_refl _⟩, by omega, ?_⟩
    rw [e1]
    exact (ev_aload_n rfl rfl (en_iconst rfl rfl (ev_aload_n rfl rfl (ev_virtC rfl rfl rfl rfl rfl (oX11_k hp0) rfl rfl rfl (y := 11) rfl rfl ev (en_iconst rfl rfl (ev_ireti rfl rfl rfl))))))
theorem wr_376 {X : gv_X} {d : Nat} {G : gv_Sh} {A : Nat → Nat → Nat} {j : Nat → Nat → Int64} {cc : gv_Rs} {p : Nat} {R : Nat → Nat} (hp0 : oX11 G 0) (h279 : G.2.1 279 = (102, 1)) (p0 : cK A R) (p1 : p < 4294967296) : ∃ (A1 : Nat → Nat → Nat) (j1 : Nat → Nat → Int64) (cc1 : gv_Rs), ((cK A1 R) ∧ (frK A A1)) ∧ ((spPairs R p).1 = 0 → j1 279 0 = (Int32.toInt64 (nI (spPairs R p).2))) ∧ (∀ q, q ≠ 279 → j1 q = j q) ∧ ccl cc cc1 ∧ (spPairs R p).1 ≤ 3 ∧ Ev X (d + 8) gvm_376 0 (gv_enter [.ref 0, .int (nI p), .ref 279] 4) [] (G, (mI A, j), cc) (.inl (some (.int (nI (spPairs R p).1))), (G, (mI A1, j1), cc1)) := by
  obtain ⟨r, ev, A1, hq, rfl⟩ := c_pairs_p (X := X) (d := d) (G := G) (A := A) (j := j) (cc := cc) (p := p) (R := R) (P := fun r => ∃ A1 : Nat → Nat → Nat, ((cK A1 R) ∧ (frK A A1)) ∧ r = oc (fun _ => 1) (spPairs R p).1 (spPairs R p).2 (G, (mI A1, j), cc)) hp0 p0 p1 (fun A1 h => ⟨A1, h, rfl⟩)
  have ec : (spPairs R p).1 = 0 ∨ (spPairs R p).1 = 1 := by
    unfold spPairs
    repeat' (first | exact Or.inl rfl | exact Or.inr rfl | exact Or.inr (Or.inl rfl) | exact Or.inr (Or.inr rfl) | exact Or.inr (Or.inr (Or.inl rfl)) | exact Or.inr (Or.inr (Or.inr rfl)) | split)
  rcases ec with e0 | e1
  · rw [oc_0 e0] at ev
    refine ⟨A1, gu j 279 0 (Int32.toInt64 (nI (spPairs R p).2)), cc, hq, fun _ => gu_hit _ _ _ _, fun q h => gu_row h, ccl_rf cc, by omega, ?_⟩
    rw [e0]
    exact (ev_aload_n rfl rfl (en_iconst rfl rfl (ev_aload_n rfl rfl (ev_iload_n rfl rfl (ev_virt rfl rfl rfl rfl rfl (oX11_k hp0) rfl rfl rfl ev (ev_i2l rfl (en_last rfl h279 (by decide) (by decide) (ev_goto rfl (en_iconst rfl rfl (ev_ireti rfl rfl rfl))))))))))
  · rw [oc_x (e := (fun _ => 1)) (m := 1) e1 (by decide) rfl] at ev
    refine ⟨A1, j, (1, cc.2.1 + 1, cc.2.2 + 6), hq, fun z => absurd (e1.symm.trans z) (by decide), fun q h => rfl, ⟨Nat.le_refl _, Nat.le_refl _⟩, by omega, ?_⟩
    rw [e1]
    exact (ev_aload_n rfl rfl (en_iconst rfl rfl (ev_aload_n rfl rfl (ev_iload_n rfl rfl (ev_virtC rfl rfl rfl rfl rfl (oX11_k hp0) rfl rfl rfl (y := 12) rfl rfl ev (en_iconst rfl rfl (ev_ireti rfl rfl rfl)))))))
