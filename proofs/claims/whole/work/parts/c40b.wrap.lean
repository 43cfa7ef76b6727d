/-! wrappers -/
theorem wr_361 {X : gv_X} {d : Nat} {G : gv_Sh} {A : Nat → Nat → Nat} {j : Nat → Nat → Int64} {cc : gv_Rs} {n : Nat} {R : Nat → Nat} {Q : Nat → Nat → Nat} (hp0 : oX11 G 0) (h279 : G.2.1 279 = (102, 1)) (p0 : cK A R) (p1 : hI A Q) (p2 : n < 4294967296) : ∃ (A1 : Nat → Nat → Nat) (j1 : Nat → Nat → Int64) (cc1 : gv_Rs), ((acT (spTk R n).1 A A1 R (gsR (tbF R) false n R) Q) ∧ (frJ A A1)) ∧ ((spTk R n).1 = 0 → j1 279 0 = (Int32.toInt64 (nI (spTk R n).2))) ∧ (∀ q, q ≠ 279 → j1 q = j q) ∧ ccl cc cc1 ∧ (spTk R n).1 ≤ 3 ∧ Ev X (d + 8) gvm_361 0 (gv_enter [.ref 0, .int (nI n), .ref 279] 4) [] (G, (mI A, j), cc) (.inl (some (.int (nI (spTk R n).1))), (G, (mI A1, j1), cc1)) := by
  obtain ⟨r, ev, A1, hq, rfl⟩ := c_ticks_p (X := X) (d := d) (G := G) (A := A) (j := j) (cc := cc) (n := n) (R := R) (Q := Q) (P := fun r => ∃ A1 : Nat → Nat → Nat, ((acT (spTk R n).1 A A1 R (gsR (tbF R) false n R) Q) ∧ (frJ A A1)) ∧ r = oc (fun _ => 0) (spTk R n).1 (spTk R n).2 (G, (mI A1, j), cc)) hp0 p0 p1 p2 (fun A1 h => ⟨A1, h, rfl⟩)
  have ec : (spTk R n).1 = 0 ∨ (spTk R n).1 = 1 := by
    unfold spTk
    repeat' (first | exact Or.inl rfl | exact Or.inr rfl | exact Or.inr (Or.inl rfl) | exact Or.inr (Or.inr rfl) | exact Or.inr (Or.inr (Or.inl rfl)) | exact Or.inr (Or.inr (Or.inr rfl)) | split)
  rcases ec with e0 | e1
  · rw [oc_0 e0] at ev
    refine ⟨A1, gu j 279 0 (Int32.toInt64 (nI (spTk R n).2)), cc, hq, fun _ => gu_hit _ _ _ _, fun q h => gu_row h, ccl_rf cc, by omega, ?_⟩
    rw [e0]
    exact (ev_aload_n rfl rfl (en_iconst rfl rfl (ev_aload_n rfl rfl (ev_iload_n rfl rfl (ev_virt rfl rfl rfl rfl rfl (oX11_k hp0) rfl rfl rfl ev (ev_i2l rfl (en_last rfl h279 (by decide) (by decide) (ev_goto rfl (en_iconst rfl rfl (ev_ireti rfl rfl rfl))))))))))
  · rw [oc_x (e := (fun _ => 0)) (m := 0) e1 (by decide) rfl] at ev
    refine ⟨A1, j, (1, cc.2.1 + 1, cc.2.2 + 6), hq, fun z => absurd (e1.symm.trans z) (by decide), fun q h => rfl, ⟨Nat.le_refl _, Nat.le_refl _⟩, by omega, ?_⟩
    rw [e1]
    exact (ev_aload_n rfl rfl (en_iconst rfl rfl (ev_aload_n rfl rfl (ev_iload_n rfl rfl (ev_virtC rfl rfl rfl rfl rfl (oX11_k hp0) rfl rfl rfl (y := 12) rfl rfl ev (en_iconst rfl rfl (ev_ireti rfl rfl rfl)))))))
theorem wr_362 {X : gv_X} {d : Nat} {G : gv_Sh} {A : Nat → Nat → Nat} {j : Nat → Nat → Int64} {cc : gv_Rs} {p : Nat} {b : Bool} {R : Nat → Nat} {Q : Nat → Nat → Nat} (hp0 : oX11 G 0) (h279 : G.2.1 279 = (102, 1)) (p0 : cK A R) (p1 : hI A Q) (p2 : p < 4294967296) : ∃ (A1 : Nat → Nat → Nat) (j1 : Nat → Nat → Int64) (cc1 : gv_Rs), ((acT (spFl R p 2 b).1 A A1 R (boR (seR R (30 + 9 * p + 2) (Bool.toNat b))) Q) ∧ (frJ A A1)) ∧ ((spFl R p 2 b).1 = 0 → j1 279 0 = (Int64.ofNat (spFl R p 2 b).2.toNat)) ∧ (∀ q, q ≠ 279 → j1 q = j q) ∧ ccl cc cc1 ∧ (spFl R p 2 b).1 ≤ 3 ∧ Ev X (d + 4) gvm_362 0 (gv_enter [.ref 0, .int (nI p), .int (zo b), .ref 279] 5) [] (G, (mI A, j), cc) (.inl (some (.int (nI (spFl R p 2 b).1))), (G, (mI A1, j1), cc1)) := by
  obtain ⟨r, ev, A1, hq, rfl⟩ := c_patch_p (X := X) (d := d) (G := G) (A := A) (j := j) (cc := cc) (p := p) (b := b) (R := R) (Q := Q) (P := fun r => ∃ A1 : Nat → Nat → Nat, ((acT (spFl R p 2 b).1 A A1 R (boR (seR R (30 + 9 * p + 2) (Bool.toNat b))) Q) ∧ (frJ A A1)) ∧ r = oc (fun _ => 1) (spFl R p 2 b).1 (spFl R p 2 b).2.toNat (G, (mI A1, j), cc)) hp0 p0 p1 p2 (fun A1 h => ⟨A1, h, rfl⟩)
  have ec : (spFl R p 2 b).1 = 0 ∨ (spFl R p 2 b).1 = 1 := by
    unfold spFl
    repeat' (first | exact Or.inl rfl | exact Or.inr rfl | exact Or.inr (Or.inl rfl) | exact Or.inr (Or.inr rfl) | exact Or.inr (Or.inr (Or.inl rfl)) | exact Or.inr (Or.inr (Or.inr rfl)) | split)
  rcases ec with e0 | e1
  · rw [oc_0 e0] at ev
    refine ⟨A1, gu j 279 0 (Int64.ofNat (spFl R p 2 b).2.toNat), cc, hq, fun _ => gu_hit _ _ _ _, fun q h => gu_row h, ccl_rf cc, by omega, ?_⟩
    rw [e0]
    cases hb : (spFl R p 2 b).2 with
    | true =>
      rw [hb] at ev
      exact (ev_aload_n rfl rfl (en_iconst rfl rfl (ev_aload_n rfl rfl (ev_iload_n rfl rfl (ev_iload_n rfl rfl (ev_virt rfl rfl rfl rfl rfl (oX11_k hp0) rfl rfl rfl ev (ev_if_eq rfl (fun e => absurd e (by decide)) (fun _ => (ev_lconst rfl (ev_goto rfl (en_last rfl h279 (by decide) (by decide) (ev_goto rfl (en_iconst rfl rfl (ev_ireti rfl rfl rfl))))))))))))))
    | false =>
      rw [hb] at ev
      exact (ev_aload_n rfl rfl (en_iconst rfl rfl (ev_aload_n rfl rfl (ev_iload_n rfl rfl (ev_iload_n rfl rfl (ev_virt rfl rfl rfl rfl rfl (oX11_k hp0) rfl rfl rfl ev (ev_if_eq rfl (fun _ => (ev_lconst rfl (en_last rfl h279 (by decide) (by decide) (ev_goto rfl (en_iconst rfl rfl (ev_ireti rfl rfl rfl)))))) (fun e => absurd rfl e))))))))
  · rw [oc_x (e := (fun _ => 1)) (m := 1) e1 (by decide) rfl] at ev
    refine ⟨A1, j, (1, cc.2.1 + 1, cc.2.2 + 6), hq, fun z => absurd (e1.symm.trans z) (by decide), fun q h => rfl, ⟨Nat.le_refl _, Nat.le_refl _⟩, by omega, ?_⟩
    rw [e1]
    exact (ev_aload_n rfl rfl (en_iconst rfl rfl (ev_aload_n rfl rfl (ev_iload_n rfl rfl (ev_iload_n rfl rfl (ev_virtC rfl rfl rfl rfl rfl (oX11_k hp0) rfl rfl rfl (y := 20) rfl rfl ev (en_iconst rfl rfl (ev_ireti rfl rfl rfl))))))))
theorem wr_363 {X : gv_X} {d : Nat} {G : gv_Sh} {A : Nat → Nat → Nat} {j : Nat → Nat → Int64} {cc : gv_Rs} {p : Nat} {b : Bool} {R : Nat → Nat} {Q : Nat → Nat → Nat} (hp0 : oX11 G 0) (h279 : G.2.1 279 = (102, 1)) (p0 : cK A R) (p1 : hI A Q) (p2 : p < 4294967296) : ∃ (A1 : Nat → Nat → Nat) (j1 : Nat → Nat → Int64) (cc1 : gv_Rs), ((acT (spFl R p 1 b).1 A A1 R (boR (seR R (30 + 9 * p + 1) (Bool.toNat b))) Q) ∧ (frJ A A1)) ∧ ((spFl R p 1 b).1 = 0 → j1 279 0 = (Int64.ofNat (spFl R p 1 b).2.toNat)) ∧ (∀ q, q ≠ 279 → j1 q = j q) ∧ ccl cc cc1 ∧ (spFl R p 1 b).1 ≤ 3 ∧ Ev X (d + 4) gvm_363 0 (gv_enter [.ref 0, .int (nI p), .int (zo b), .ref 279] 5) [] (G, (mI A, j), cc) (.inl (some (.int (nI (spFl R p 1 b).1))), (G, (mI A1, j1), cc1)) := by
  obtain ⟨r, ev, A1, hq, rfl⟩ := c_guard_p (X := X) (d := d) (G := G) (A := A) (j := j) (cc := cc) (p := p) (b := b) (R := R) (Q := Q) (P := fun r => ∃ A1 : Nat → Nat → Nat, ((acT (spFl R p 1 b).1 A A1 R (boR (seR R (30 + 9 * p + 1) (Bool.toNat b))) Q) ∧ (frJ A A1)) ∧ r = oc (fun _ => 1) (spFl R p 1 b).1 (spFl R p 1 b).2.toNat (G, (mI A1, j), cc)) hp0 p0 p1 p2 (fun A1 h => ⟨A1, h, rfl⟩)
  have ec : (spFl R p 1 b).1 = 0 ∨ (spFl R p 1 b).1 = 1 := by
    unfold spFl
    repeat' (first | exact Or.inl rfl | exact Or.inr rfl | exact Or.inr (Or.inl rfl) | exact Or.inr (Or.inr rfl) | exact Or.inr (Or.inr (Or.inl rfl)) | exact Or.inr (Or.inr (Or.inr rfl)) | split)
  rcases ec with e0 | e1
  · rw [oc_0 e0] at ev
    refine ⟨A1, gu j 279 0 (Int64.ofNat (spFl R p 1 b).2.toNat), cc, hq, fun _ => gu_hit _ _ _ _, fun q h => gu_row h, ccl_rf cc, by omega, ?_⟩
    rw [e0]
    cases hb : (spFl R p 1 b).2 with
    | true =>
      rw [hb] at ev
      exact (ev_aload_n rfl rfl (en_iconst rfl rfl (ev_aload_n rfl rfl (ev_iload_n rfl rfl (ev_iload_n rfl rfl (ev_virt rfl rfl rfl rfl rfl (oX11_k hp0) rfl rfl rfl ev (ev_if_eq rfl (fun e => absurd e (by decide)) (fun _ => (ev_lconst rfl (ev_goto rfl (en_last rfl h279 (by decide) (by decide) (ev_goto rfl (en_iconst rfl rfl (ev_ireti rfl rfl rfl))))))))))))))
    | false =>
      rw [hb] at ev
      exact (ev_aload_n rfl rfl (en_iconst rfl rfl (ev_aload_n rfl rfl (ev_iload_n rfl rfl (ev_iload_n rfl rfl (ev_virt rfl rfl rfl rfl rfl (oX11_k hp0) rfl rfl rfl ev (ev_if_eq rfl (fun _ => (ev_lconst rfl (en_last rfl h279 (by decide) (by decide) (ev_goto rfl (en_iconst rfl rfl (ev_ireti rfl rfl rfl)))))) (fun e => absurd rfl e))))))))
  · rw [oc_x (e := (fun _ => 1)) (m := 1) e1 (by decide) rfl] at ev
    refine ⟨A1, j, (1, cc.2.1 + 1, cc.2.2 + 6), hq, fun z => absurd (e1.symm.trans z) (by decide), fun q h => rfl, ⟨Nat.le_refl _, Nat.le_refl _⟩, by omega, ?_⟩
    rw [e1]
    exact (ev_aload_n rfl rfl (en_iconst rfl rfl (ev_aload_n rfl rfl (ev_iload_n rfl rfl (ev_iload_n rfl rfl (ev_virtC rfl rfl rfl rfl rfl (oX11_k hp0) rfl rfl rfl (y := 20) rfl rfl ev (en_iconst rfl rfl (ev_ireti rfl rfl rfl))))))))
theorem wr_364 {X : gv_X} {d : Nat} {G : gv_Sh} {A : Nat → Nat → Nat} {j : Nat → Nat → Int64} {cc : gv_Rs} {k : Nat} {p : Nat} {R : Nat → Nat} {Q : Nat → Nat → Nat} (hp0 : oX11 G 0) (h279 : G.2.1 279 = (102, 1)) (p0 : cK A R) (p1 : hI A Q) (p2 : k < 4294967296) (p3 : p < 4294967296) : ∃ (A1 : Nat → Nat → Nat) (j1 : Nat → Nat → Int64) (cc1 : gv_Rs), ((acT (spPu R k p).1 A A1 R (puN R k p) Q) ∧ (frJ A A1)) ∧ ((spPu R k p).1 = 0 → j1 279 0 = (Int32.toInt64 (nI (spPu R k p).2))) ∧ (∀ q, q ≠ 279 → j1 q = j q) ∧ ccl cc cc1 ∧ (spPu R k p).1 ≤ 3 ∧ Ev X (d + 4) gvm_364 0 (gv_enter [.ref 0, .int (nI k), .int (nI p), .ref 279] 5) [] (G, (mI A, j), cc) (.inl (some (.int (nI (spPu R k p).1))), (G, (mI A1, j1), cc1)) := by
  obtain ⟨r, ev, A1, hq, rfl⟩ := c_put_p (X := X) (d := d) (G := G) (A := A) (j := j) (cc := cc) (k := k) (p := p) (R := R) (Q := Q) (P := fun r => ∃ A1 : Nat → Nat → Nat, ((acT (spPu R k p).1 A A1 R (puN R k p) Q) ∧ (frJ A A1)) ∧ r = oc (fun _ => 1) (spPu R k p).1 (spPu R k p).2 (G, (mI A1, j), cc)) hp0 p0 p1 p2 p3 (fun A1 h => ⟨A1, h, rfl⟩)
  have ec : (spPu R k p).1 = 0 ∨ (spPu R k p).1 = 1 := by
    unfold spPu
    repeat' (first | exact Or.inl rfl | exact Or.inr rfl | exact Or.inr (Or.inl rfl) | exact Or.inr (Or.inr rfl) | exact Or.inr (Or.inr (Or.inl rfl)) | exact Or.inr (Or.inr (Or.inr rfl)) | split)
  rcases ec with e0 | e1
  · rw [oc_0 e0] at ev
    refine ⟨A1, gu j 279 0 (Int32.toInt64 (nI (spPu R k p).2)), cc, hq, fun _ => gu_hit _ _ _ _, fun q h => gu_row h, ccl_rf cc, by omega, ?_⟩
    rw [e0]
    exact (ev_aload_n rfl rfl (en_iconst rfl rfl (ev_aload_n rfl rfl (ev_iload_n rfl rfl (ev_iload_n rfl rfl (ev_virt rfl rfl rfl rfl rfl (oX11_k hp0) rfl rfl rfl ev (ev_i2l rfl (en_last rfl h279 (by decide) (by decide) (ev_goto rfl (en_iconst rfl rfl (ev_ireti rfl rfl rfl)))))))))))
  · rw [oc_x (e := (fun _ => 1)) (m := 1) e1 (by decide) rfl] at ev
    refine ⟨A1, j, (1, cc.2.1 + 1, cc.2.2 + 6), hq, fun z => absurd (e1.symm.trans z) (by decide), fun q h => rfl, ⟨Nat.le_refl _, Nat.le_refl _⟩, by omega, ?_⟩
    rw [e1]
    exact (ev_aload_n rfl rfl (en_iconst rfl rfl (ev_aload_n rfl rfl (ev_iload_n rfl rfl (ev_iload_n rfl rfl (ev_virtC rfl rfl rfl rfl rfl (oX11_k hp0) rfl rfl rfl (y := 13) rfl rfl ev (en_iconst rfl rfl (ev_ireti rfl rfl rfl))))))))
theorem wr_365 {X : gv_X} {d : Nat} {G : gv_Sh} {A : Nat → Nat → Nat} {j : Nat → Nat → Int64} {cc : gv_Rs} {c : Nat} {n : Nat} {R : Nat → Nat} {Q : Nat → Nat → Nat} (hp0 : oX11 G 0) (h279 : G.2.1 279 = (102, 1)) (p0 : cK A R) (p1 : hI A Q) (p2 : c < 4294967296) (p3 : n < 4294967296) : ∃ (A1 : Nat → Nat → Nat) (j1 : Nat → Nat → Int64) (cc1 : gv_Rs), ((acT (spSt R c n).1 A A1 R (boR (seR R (22 + c) n)) Q) ∧ (frJ A A1)) ∧ ((spSt R c n).1 = 0 → j1 279 0 = (Int32.toInt64 (nI (spSt R c n).2))) ∧ (∀ q, q ≠ 279 → j1 q = j q) ∧ ccl cc cc1 ∧ (spSt R c n).1 ≤ 3 ∧ Ev X (d + 4) gvm_365 0 (gv_enter [.ref 0, .int (nI c), .int (nI n), .ref 279] 5) [] (G, (mI A, j), cc) (.inl (some (.int (nI (spSt R c n).1))), (G, (mI A1, j1), cc1)) := by
  obtain ⟨r, ev, A1, hq, rfl⟩ := c_store_p (X := X) (d := d) (G := G) (A := A) (j := j) (cc := cc) (c := c) (n := n) (R := R) (Q := Q) (P := fun r => ∃ A1 : Nat → Nat → Nat, ((acT (spSt R c n).1 A A1 R (boR (seR R (22 + c) n)) Q) ∧ (frJ A A1)) ∧ r = oc (fun c => if c = 1 then 1 else 0) (spSt R c n).1 (spSt R c n).2 (G, (mI A1, j), cc)) hp0 p0 p1 p2 p3 (fun A1 h => ⟨A1, h, rfl⟩)
  have ec : (spSt R c n).1 = 0 ∨ (spSt R c n).1 = 1 ∨ (spSt R c n).1 = 2 := by
    unfold spSt
    repeat' (first | exact Or.inl rfl | exact Or.inr rfl | exact Or.inr (Or.inl rfl) | exact Or.inr (Or.inr rfl) | exact Or.inr (Or.inr (Or.inl rfl)) | exact Or.inr (Or.inr (Or.inr rfl)) | split)
  rcases ec with e0 | e1 | e2
  · rw [oc_0 e0] at ev
    refine ⟨A1, gu j 279 0 (Int32.toInt64 (nI (spSt R c n).2)), cc, hq, fun _ => gu_hit _ _ _ _, fun q h => gu_row h, ccl_rf cc, by omega, ?_⟩
    rw [e0]
    exact (ev_aload_n rfl rfl (en_iconst rfl rfl (ev_aload_n rfl rfl (ev_iload_n rfl rfl (ev_iload_n rfl rfl (ev_virt rfl rfl rfl rfl rfl (oX11_k hp0) rfl rfl rfl ev (ev_i2l rfl (en_last rfl h279 (by decide) (by decide) (ev_goto rfl (en_iconst rfl rfl (ev_ireti rfl rfl rfl)))))))))))
  · rw [oc_x (e := (fun c => if c = 1 then 1 else 0)) (m := 1) e1 (by decide) rfl] at ev
    refine ⟨A1, j, (1, cc.2.1 + 1, cc.2.2 + 6), hq, fun z => absurd (e1.symm.trans z) (by decide), fun q h => rfl, ⟨Nat.le_refl _, Nat.le_refl _⟩, by omega, ?_⟩
    rw [e1]
    exact (ev_aload_n rfl rfl (en_iconst rfl rfl (ev_aload_n rfl rfl (ev_iload_n rfl rfl (ev_iload_n rfl rfl (ev_virtC rfl rfl rfl rfl rfl (oX11_k hp0) rfl rfl rfl (y := 13) rfl rfl ev (en_iconst rfl rfl (ev_ireti rfl rfl rfl))))))))
  · rw [oc_x (e := (fun c => if c = 1 then 1 else 0)) (m := 0) e2 (by decide) rfl] at ev
    refine ⟨A1, j, (1, cc.2.1 + 1, cc.2.2 + 6), hq, fun z => absurd (e2.symm.trans z) (by decide), fun q h => rfl, ⟨Nat.le_refl _, Nat.le_refl _⟩, by omega, ?_⟩
    rw [e2]
    exact (ev_aload_n rfl rfl (en_iconst rfl rfl (ev_aload_n rfl rfl (ev_iload_n rfl rfl (ev_iload_n rfl rfl (ev_virtC rfl rfl rfl rfl rfl (oX11_k hp0) rfl rfl rfl (y := 17) rfl rfl ev (en_iconst rfl rfl (ev_ireti rfl rfl rfl))))))))
theorem wr_366 {X : gv_X} {d : Nat} {G : gv_Sh} {A : Nat → Nat → Nat} {j : Nat → Nat → Int64} {cc : gv_Rs} {n : Nat} {R : Nat → Nat} {Q : Nat → Nat → Nat} (hp0 : oX11 G 0) (h279 : G.2.1 279 = (102, 1)) (p0 : cK A R) (p1 : hI A Q) (p2 : n < 4294967296) : ∃ (A1 : Nat → Nat → Nat) (j1 : Nat → Nat → Int64) (cc1 : gv_Rs), ((acT (spS 9 n (R 4)).1 A A1 R (boR (seR R 4 n)) Q) ∧ (frJ A A1)) ∧ ((spS 9 n (R 4)).1 = 0 → j1 279 0 = (Int32.toInt64 (nI (spS 9 n (R 4)).2))) ∧ (∀ q, q ≠ 279 → j1 q = j q) ∧ ccl cc cc1 ∧ (spS 9 n (R 4)).1 ≤ 3 ∧ Ev X (d + 4) gvm_366 0 (gv_enter [.ref 0, .int (nI n), .ref 279] 4) [] (G, (mI A, j), cc) (.inl (some (.int (nI (spS 9 n (R 4)).1))), (G, (mI A1, j1), cc1)) := by
  obtain ⟨r, ev, A1, hq, rfl⟩ := c_vector_p (X := X) (d := d) (G := G) (A := A) (j := j) (cc := cc) (n := n) (R := R) (Q := Q) (P := fun r => ∃ A1 : Nat → Nat → Nat, ((acT (spS 9 n (R 4)).1 A A1 R (boR (seR R 4 n)) Q) ∧ (frJ A A1)) ∧ r = oc (fun _ => 0) (spS 9 n (R 4)).1 (spS 9 n (R 4)).2 (G, (mI A1, j), cc)) hp0 p0 p1 p2 (fun A1 h => ⟨A1, h, rfl⟩)
  have ec : (spS 9 n (R 4)).1 = 0 ∨ (spS 9 n (R 4)).1 = 1 := by
    unfold spS
    repeat' (first | exact Or.inl rfl | exact Or.inr rfl | exact Or.inr (Or.inl rfl) | exact Or.inr (Or.inr rfl) | exact Or.inr (Or.inr (Or.inl rfl)) | exact Or.inr (Or.inr (Or.inr rfl)) | split)
  rcases ec with e0 | e1
  · rw [oc_0 e0] at ev
    refine ⟨A1, gu j 279 0 (Int32.toInt64 (nI (spS 9 n (R 4)).2)), cc, hq, fun _ => gu_hit _ _ _ _, fun q h => gu_row h, ccl_rf cc, by omega, ?_⟩
    rw [e0]
    exact (ev_aload_n rfl rfl (en_iconst rfl rfl (ev_aload_n rfl rfl (ev_iload_n rfl rfl (ev_virt rfl rfl rfl rfl rfl (oX11_k hp0) rfl rfl rfl ev (ev_i2l rfl (en_last rfl h279 (by decide) (by decide) (ev_goto rfl (en_iconst rfl rfl (ev_ireti rfl rfl rfl))))))))))
  · rw [oc_x (e := (fun _ => 0)) (m := 0) e1 (by decide) rfl] at ev
    refine ⟨A1, j, (1, cc.2.1 + 1, cc.2.2 + 6), hq, fun z => absurd (e1.symm.trans z) (by decide), fun q h => rfl, ⟨Nat.le_refl _, Nat.le_refl _⟩, by omega, ?_⟩
    rw [e1]
    exact (ev_aload_n rfl rfl (en_iconst rfl rfl (ev_aload_n rfl rfl (ev_iload_n rfl rfl (ev_virtC rfl rfl rfl rfl rfl (oX11_k hp0) rfl rfl rfl (y := 12) rfl rfl ev (en_iconst rfl rfl (ev_ireti rfl rfl rfl)))))))
theorem wr_367 {X : gv_X} {d : Nat} {G : gv_Sh} {A : Nat → Nat → Nat} {j : Nat → Nat → Int64} {cc : gv_Rs} {n : Nat} {R : Nat → Nat} {Q : Nat → Nat → Nat} (hp0 : oX11 G 0) (h279 : G.2.1 279 = (102, 1)) (p0 : cK A R) (p1 : hI A Q) (p2 : n < 4294967296) : ∃ (A1 : Nat → Nat → Nat) (j1 : Nat → Nat → Int64) (cc1 : gv_Rs), ((acT (spS 3 n (R 5 / 2)).1 A A1 R (boR (seR R 5 (2 * n))) Q) ∧ (frJ A A1)) ∧ ((spS 3 n (R 5 / 2)).1 = 0 → j1 279 0 = (Int32.toInt64 (nI (spS 3 n (R 5 / 2)).2))) ∧ (∀ q, q ≠ 279 → j1 q = j q) ∧ ccl cc cc1 ∧ (spS 3 n (R 5 / 2)).1 ≤ 3 ∧ Ev X (d + 4) gvm_367 0 (gv_enter [.ref 0, .int (nI n), .ref 279] 4) [] (G, (mI A, j), cc) (.inl (some (.int (nI (spS 3 n (R 5 / 2)).1))), (G, (mI A1, j1), cc1)) := by
  obtain ⟨r, ev, A1, hq, rfl⟩ := c_shift_p (X := X) (d := d) (G := G) (A := A) (j := j) (cc := cc) (n := n) (R := R) (Q := Q) (P := fun r => ∃ A1 : Nat → Nat → Nat, ((acT (spS 3 n (R 5 / 2)).1 A A1 R (boR (seR R 5 (2 * n))) Q) ∧ (frJ A A1)) ∧ r = oc (fun _ => 0) (spS 3 n (R 5 / 2)).1 (spS 3 n (R 5 / 2)).2 (G, (mI A1, j), cc)) hp0 p0 p1 p2 (fun A1 h => ⟨A1, h, rfl⟩)
  have ec : (spS 3 n (R 5 / 2)).1 = 0 ∨ (spS 3 n (R 5 / 2)).1 = 1 := by
    unfold spS
    repeat' (first | exact Or.inl rfl | exact Or.inr rfl | exact Or.inr (Or.inl rfl) | exact Or.inr (Or.inr rfl) | exact Or.inr (Or.inr (Or.inl rfl)) | exact Or.inr (Or.inr (Or.inr rfl)) | split)
  rcases ec with e0 | e1
  · rw [oc_0 e0] at ev
    refine ⟨A1, gu j 279 0 (Int32.toInt64 (nI (spS 3 n (R 5 / 2)).2)), cc, hq, fun _ => gu_hit _ _ _ _, fun q h => gu_row h, ccl_rf cc, by omega, ?_⟩
    rw [e0]
    exact (ev_aload_n rfl rfl (en_iconst rfl rfl (ev_aload_n rfl rfl (ev_iload_n rfl rfl (ev_virt rfl rfl rfl rfl rfl (oX11_k hp0) rfl rfl rfl ev (ev_i2l rfl (en_last rfl h279 (by decide) (by decide) (ev_goto rfl (en_iconst rfl rfl (ev_ireti rfl rfl rfl))))))))))
  · rw [oc_x (e := (fun _ => 0)) (m := 0) e1 (by decide) rfl] at ev
    refine ⟨A1, j, (1, cc.2.1 + 1, cc.2.2 + 6), hq, fun z => absurd (e1.symm.trans z) (by decide), fun q h => rfl, ⟨Nat.le_refl _, Nat.le_refl _⟩, by omega, ?_⟩
    rw [e1]
    exact (ev_aload_n rfl rfl (en_iconst rfl rfl (ev_aload_n rfl rfl (ev_iload_n rfl rfl (ev_virtC rfl rfl rfl rfl rfl (oX11_k hp0) rfl rfl rfl (y := 12) rfl rfl ev (en_iconst rfl rfl (ev_ireti rfl rfl rfl)))))))
theorem wr_368 {X : gv_X} {d : Nat} {G : gv_Sh} {A : Nat → Nat → Nat} {j : Nat → Nat → Int64} {cc : gv_Rs} {n : Nat} {R : Nat → Nat} {Q : Nat → Nat → Nat} (hp0 : oX11 G 0) (h279 : G.2.1 279 = (102, 1)) (p0 : cK A R) (p1 : hI A Q) (p2 : n < 4294967296) : ∃ (A1 : Nat → Nat → Nat) (j1 : Nat → Nat → Int64) (cc1 : gv_Rs), ((acT (spS 7 n (R 6)).1 A A1 R (boR (seR R 6 n)) Q) ∧ (frJ A A1)) ∧ ((spS 7 n (R 6)).1 = 0 → j1 279 0 = (Int32.toInt64 (nI (spS 7 n (R 6)).2))) ∧ (∀ q, q ≠ 279 → j1 q = j q) ∧ ccl cc cc1 ∧ (spS 7 n (R 6)).1 ≤ 3 ∧ Ev X (d + 4) gvm_368 0 (gv_enter [.ref 0, .int (nI n), .ref 279] 4) [] (G, (mI A, j), cc) (.inl (some (.int (nI (spS 7 n (R 6)).1))), (G, (mI A1, j1), cc1)) := by
  obtain ⟨r, ev, A1, hq, rfl⟩ := c_cost_p (X := X) (d := d) (G := G) (A := A) (j := j) (cc := cc) (n := n) (R := R) (Q := Q) (P := fun r => ∃ A1 : Nat → Nat → Nat, ((acT (spS 7 n (R 6)).1 A A1 R (boR (seR R 6 n)) Q) ∧ (frJ A A1)) ∧ r = oc (fun _ => 0) (spS 7 n (R 6)).1 (spS 7 n (R 6)).2 (G, (mI A1, j), cc)) hp0 p0 p1 p2 (fun A1 h => ⟨A1, h, rfl⟩)
  have ec : (spS 7 n (R 6)).1 = 0 ∨ (spS 7 n (R 6)).1 = 1 := by
    unfold spS
    repeat' (first | exact Or.inl rfl | exact Or.inr rfl | exact Or.inr (Or.inl rfl) | exact Or.inr (Or.inr rfl) | exact Or.inr (Or.inr (Or.inl rfl)) | exact Or.inr (Or.inr (Or.inr rfl)) | split)
  rcases ec with e0 | e1
  · rw [oc_0 e0] at ev
    refine ⟨A1, gu j 279 0 (Int32.toInt64 (nI (spS 7 n (R 6)).2)), cc, hq, fun _ => gu_hit _ _ _ _, fun q h => gu_row h, ccl_rf cc, by omega, ?_⟩
    rw [e0]
    exact (ev_aload_n rfl rfl (en_iconst rfl rfl (ev_aload_n rfl rfl (ev_iload_n rfl rfl (ev_virt rfl rfl rfl rfl rfl (oX11_k hp0) rfl rfl rfl ev (ev_i2l rfl (en_last rfl h279 (by decide) (by decide) (ev_goto rfl (en_iconst rfl rfl (ev_ireti rfl rfl rfl))))))))))
  · rw [oc_x (e := (fun _ => 0)) (m := 0) e1 (by decide) rfl] at ev
    refine ⟨A1, j, (1, cc.2.1 + 1, cc.2.2 + 6), hq, fun z => absurd (e1.symm.trans z) (by decide), fun q h => rfl, ⟨Nat.le_refl _, Nat.le_refl _⟩, by omega, ?_⟩
    rw [e1]
    exact (ev_aload_n rfl rfl (en_iconst rfl rfl (ev_aload_n rfl rfl (ev_iload_n rfl rfl (ev_virtC rfl rfl rfl rfl rfl (oX11_k hp0) rfl rfl rfl (y := 12) rfl rfl ev (en_iconst rfl rfl (ev_ireti rfl rfl rfl)))))))
