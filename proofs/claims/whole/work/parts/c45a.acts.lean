/-! acts of the law; the tape taken -/
theorem ivI_t {A B C : Nat → Nat → Nat} {j jj : Nat → Nat → Int64} (h : ivI A j) (k : cK B (A 264)) (f : frT2 A B) (q : frV B C) (t : TrJ C jj) : ivI C jj := by
  have bh : ∀ p, 263 ≤ p → B p = A p := fun p hp => f.2.2 p (by omega) (by omega) (by omega) (by omega)
  have cb : ∀ p, p < 263 → C p = B p := fun p hp => q.1 p (by omega)
  have e : ∀ p, (0 < p ∧ p < 55) ∨ (63 < p ∧ p < 258) ∨ p = 264 ∨ p = 265 ∨ p = 268 ∨ p = 269 → C p = A p := fun p hp => (q.1 p (by omega)).trans (f.2.2 p (by omega) (by omega) (by omega) (by omega))
  have e3 : ∀ k, k = 6 ∨ k = 7 ∨ k = 14 → C 263 k = A 263 k := fun k hk => (q.2.1 k hk).trans (by rw [bh 263 (by decide)])
  have c0 : ∀ k, k ≠ 1 → C 0 k = A 0 k := fun k hk => by rw [cb 0 (by decide)]; exact f.2.1 k hk
  have c01 : C 0 1 = 0 := by rw [cb 0 (by decide)]; exact f.1
  refine ⟨?_, t, ⟨by rw [e3 7 (by omega)]; exact h.2.2.1.1, by rw [q.2.2]; decide, by rw [e3 6 (by omega)]; exact h.2.2.1.2.2.1, by rw [e 269 (by omega)]; exact h.2.2.1.2.2.2⟩, ⟨by rw [c01, q.2.2], by rw [c0 2 (by decide), e3 14 (by omega)]; exact h.2.2.2.1.2.1, fun i hi => absurd hi (by rw [q.2.2]; omega)⟩, ivP_of h.2.2.2.2.1 (e3 6 (by omega)) (e 265 (by omega)) (c0 6 (by decide)) (fun p hp => e p (by omega)), ivQ_of h.2.2.2.2.2 (e3 7 (by omega)) (fun i _ => by rw [e 264 (by omega)]) (e 268 (by omega)) (fun p hp => e p (by omega))⟩
  rw [e 264 (by omega)]
  exact cK_of k (fun p hp => cb p (by omega))
theorem lw_c13 {X : gv_X} {d : Nat} {G : gv_Sh} {A : Nat → Nat → Nat} {j : Nat → Nat → Int64} {cc : gv_Rs} {P : gv_O × gv_S → Prop} {i : Nat} {l5 l6 : Option Value} (hg : ivG G) (hX : X.2 < 2147483648) (hi : i + 6 ≤ X.2) (I : ivI A j) (K : ivK X d G P i cc) : EvP X (d + 40) gvm_385 996 [some (.retAddr 0), some (.ref 0), some (.ref 263), some (.ref 279), some (.int (nI i)), l5, l6] [] (G, (mI A, j), cc) P := by
  obtain ⟨g0, g1, g2, g3, g4⟩ := hg
  obtain ⟨Q, hQ, hq⟩ := I.2.2.2.2.2
  obtain ⟨B, e1, k⟩ := c_boot (X := X) (d := d + 36) (G := G) (A := A) (j := j) (cc := cc)  (R := (A 264)) (Q := Q) g0 I.1 hQ
  have bh : ∀ q, 263 ≤ q → B q = A q := (frJ_hi k.2)
  have b4 : B 264 = A 264 := bh 264 (by decide)
  obtain ⟨o1, o2, o3, o4, o5, o6, o7⟩ := lw_o I bh rfl
  obtain ⟨C, e2, m⟩ := r_boot (X := X) (d := d + 37) (G := G) (A := B) (j := j) (cc := cc)  g1 o3 o4
  rw [b4] at m
  have hI : ivI C j := ivI_a (c := 0) I hQ hq (fun _ => eqV_bo _) k.1 k.2 ⟨fun _ => ⟨m.1, m.2.1⟩, fun z => absurd rfl z⟩ m.2.2.1 m.2.2.2.1
  have KK := K C j cc l5 l6 hI (ccl_rf cc)
  exact (pv_aload_n rfl rfl (pv_virt rfl rfl rfl rfl rfl (oX11_k g0) rfl rfl rfl e1 (pv_aload_n rfl rfl (pv_virt rfl rfl rfl rfl rfl (oX12_k g1) rfl rfl rfl e2 (pv_goto rfl KK)))))
theorem lw_c12 {X : gv_X} {d : Nat} {G : gv_Sh} {A : Nat → Nat → Nat} {j : Nat → Nat → Int64} {cc : gv_Rs} {P : gv_O × gv_S → Prop} {i : Nat} {l5 l6 : Option Value} (hg : ivG G) (hX : X.2 < 2147483648) (hi : i + 6 ≤ X.2) (I : ivI A j) (K : ivK X d G P i cc) : EvP X (d + 40) gvm_385 940 [some (.retAddr 0), some (.ref 0), some (.ref 263), some (.ref 279), some (.int (nI i)), l5, l6] [] (G, (mI A, j), cc) P := by
  obtain ⟨g0, g1, g2, g3, g4⟩ := hg
  obtain ⟨Q, hQ, hq⟩ := I.2.2.2.2.2
  obtain ⟨B, jb, c1, k, hv, hj, hcl, le, e1⟩ := wr_361 (X := X) (d := d + 31) (G := G) (A := A) (j := j) (cc := cc) (n := (scN X (i + 1))) (R := (A 264)) (Q := Q) g0 g2 I.1 hQ (scN_lt _ _)
  have bh : ∀ q, 263 ≤ q → B q = A q := (frJ_hi k.2)
  have b4 : B 264 = A 264 := bh 264 (by decide)
  obtain ⟨o1, o2, o3, o4, o5, o6, o7⟩ := lw_o I bh (hj 274 (by decide))
  obtain ⟨C, jc, e2, m⟩ := r_ticks (X := X) (d := d + 30) (G := G) (A := B) (j := jb) (cc := c1) (n := (scN X (i + 1))) g1 (by rw [b4]; exact o1) o3 o4 (by rw [b4]; exact o2) (scN_lt _ _)
  rw [b4] at e2 m
  have ec : (if 1 ≤ (scN X (i + 1)) ∧ (scN X (i + 1)) ≤ 60 then 0 else 1) = (spTk (A 264) (scN X (i + 1))).1 := by
    unfold spTk
    (repeat' split) <;> first | rfl | omega | contradiction
  have el : (if 1 ≤ (scN X (i + 1)) ∧ (scN X (i + 1)) ≤ 60 then gsN (tbF (A 264)) false (scN X (i + 1)) (A 264) else 0) = (spTk (A 264) (scN X (i + 1))).2 := by
    unfold spTk
    (repeat' split) <;> first | rfl | omega | contradiction
  rw [ec] at m
  rw [el] at e2
  have hI : ivI C jc := ivI_a I hQ hq (fun _ => eqV_X (gs_X I.1.1 _ _ _).2) k.1 k.2 m.1 m.2.1 m.2.2.1
  have m0 := m.2.2.2
  have e3 := r_thrown (X := X) (d := d + 39) (G := G) (A := C) (j := jc) (cc := c1) g1
  rw [m0] at e3
  have j9 : jc 279 = jb 279 := ev_279 e2 (clT_c cl_263 (clT_c ((cl9_K 279).1 _) clT_nil)) g3 g4
  have LC : nI (spTk (A 264) (scN X (i + 1))).1 = 0 → lg_cmp (jc 279 0) (Int32.toInt64 (nI (spTk (A 264) (scN X (i + 1))).2)) = 0 := fun z => by
    have z0 : (spTk (A 264) (scN X (i + 1))).1 = 0 := by rw [← nI_0, nn_eq] at z; omega
    rw [j9, hv z0]; exact lcs _
  have KK := K C jc c1 (some (.int (nI (spTk (A 264) (scN X (i + 1))).1))) (some (.int (nI (spTk (A 264) (scN X (i + 1))).2))) hI hcl
  exact (pv_aload_n rfl rfl (pv_xload_n rfl rfl (pv_iload rfl rfl (pn_iconst (u := 1) rfl rfl (pn_iadd rfl (pn_scN rfl (by omega) hX (pv_aload_n rfl rfl (pv_stat rfl rfl rfl rfl rfl rfl rfl rfl e1 (pv_istore rfl rfl (pv_aload_n rfl rfl (pv_xload_n rfl rfl (pv_iload rfl rfl (pn_iconst (u := 1) rfl rfl (pn_iadd rfl (pn_scN rfl (by omega) hX (pv_virt rfl rfl rfl rfl rfl (oX12_k g1) rfl rfl rfl e2 (pv_istore rfl rfl (pv_aload_n rfl rfl (pv_virt rfl rfl rfl rfl rfl (oX12_k g1) rfl rfl rfl e3 (pv_iload rfl rfl (pv_ic_eq rfl (fun _ => (pv_iload rfl rfl (pv_if_ne rfl (fun _ => (pv_goto rfl KK)) (fun z => have lc := LC z; (pv_aload_n rfl rfl (pn_iconst (u := 0) rfl rfl (pn_lald rfl g2 (by decide) (by decide) (pv_iload rfl rfl (pv_i2l rfl (pv_lcmp rfl (pv_if_eq rfl (fun _ => (pv_goto rfl KK)) (fun e => absurd lc e)))))))))))) (fun e => absurd rfl e))))))))))))))))))))))
theorem lw_c14 {X : gv_X} {d : Nat} {G : gv_Sh} {A : Nat → Nat → Nat} {j : Nat → Nat → Int64} {cc : gv_Rs} {P : gv_O × gv_S → Prop} {i : Nat} {l5 l6 : Option Value} (hg : ivG G) (hX : X.2 < 2147483648) (hi : i + 6 ≤ X.2) (I : ivI A j) (K : ivK X d G P i cc) : EvP X (d + 40) gvm_385 1007 [some (.retAddr 0), some (.ref 0), some (.ref 263), some (.ref 279), some (.int (nI i)), l5, l6] [] (G, (mI A, j), cc) P := by
  obtain ⟨g0, g1, g2, g3, g4⟩ := hg
  obtain ⟨Q, hQ, hq⟩ := I.2.2.2.2.2
  obtain ⟨B, jb, c1, k, hv, hj, hcl, le, e1⟩ := wr_362 (X := X) (d := d + 35) (G := G) (A := A) (j := j) (cc := cc) (p := (scN X (i + 1))) (b := (sB (scN X (i + 2)))) (R := (A 264)) (Q := Q) g0 g2 I.1 hQ (scN_lt _ _)
  have bh : ∀ q, 263 ≤ q → B q = A q := (frJ_hi k.2)
  have b4 : B 264 = A 264 := bh 264 (by decide)
  obtain ⟨o1, o2, o3, o4, o5, o6, o7⟩ := lw_o I bh (hj 274 (by decide))
  obtain ⟨C, e2, m⟩ := r_patch (X := X) (d := d + 35) (G := G) (A := B) (j := jb) (cc := c1) (op := (scN X (i + 1))) (b := (sB (scN X (i + 2)))) g1 (by rw [b4]; exact o1) o3 o4 (scN_lt _ _)
  rw [b4] at e2 m
  have ec : (if A 264 0 ≤ (scN X (i + 1)) then 1 else 0) = (spFl (A 264) (scN X (i + 1)) 2 (sB (scN X (i + 2)))).1 := by
    unfold spFl
    (repeat' split) <;> first | rfl | omega | contradiction
  have el : (decide ((scN X (i + 1)) < A 264 0) && !decide (A 264 (30 + 9 * (scN X (i + 1)) + 2) = Bool.toNat (sB (scN X (i + 2))))) = (spFl (A 264) (scN X (i + 1)) 2 (sB (scN X (i + 2)))).2 := by
    unfold spFl
    by_cases z : A 264 0 ≤ (scN X (i + 1))
    · rw [if_pos z, decide_eq_false (by omega), Bool.false_and]
    · rw [if_neg z, decide_eq_true (by omega), Bool.true_and]
  rw [ec] at m
  rw [el] at e2
  have hI : ivI C jb := ivI_a I hQ hq (fun _ => eqV_fl (Or.inr rfl)) k.1 k.2 m.1 m.2.1 m.2.2.1
  have m0 := m.2.2.2
  have e3 := r_thrown (X := X) (d := d + 39) (G := G) (A := C) (j := jb) (cc := c1) g1
  rw [m0] at e3
  have j9 : jb 279 = jb 279 := rfl
  have KK := K C jb c1 (some (.int (nI (spFl (A 264) (scN X (i + 1)) 2 (sB (scN X (i + 2)))).1))) (some (.int (zo (spFl (A 264) (scN X (i + 1)) 2 (sB (scN X (i + 2)))).2))) hI hcl
  cases hb : (spFl (A 264) (scN X (i + 1)) 2 (sB (scN X (i + 2)))).2 with
  | true =>
    rw [hb] at e2 hv KK
    have LC : nI (spFl (A 264) (scN X (i + 1)) 2 (sB (scN X (i + 2)))).1 = 0 → lg_cmp (jb 279 0) (Int64.ofNat 1) = 0 := fun z => by
      rw [show (spFl (A 264) (scN X (i + 1)) 2 (sB (scN X (i + 2)))).1 = 0 by rw [← nI_0, nn_eq] at z; omega] at hv
      rw [j9, hv rfl]; exact lcs _
    exact (pv_aload_n rfl rfl (pv_xload_n rfl rfl (pv_iload rfl rfl (pn_iconst (u := 1) rfl rfl (pn_iadd rfl (pn_scN rfl (by omega) hX (pv_xload_n rfl rfl (pv_iload rfl rfl (pn_iconst (u := 2) rfl rfl (pn_iadd rfl (pn_scN rfl (by omega) hX (pv_nz rfl rfl rfl rfl (scN_lt _ _) (pv_aload_n rfl rfl (pv_stat rfl rfl rfl rfl rfl rfl rfl rfl e1 (pv_istore rfl rfl (pv_aload_n rfl rfl (pv_xload_n rfl rfl (pv_iload rfl rfl (pn_iconst (u := 1) rfl rfl (pn_iadd rfl (pn_scN rfl (by omega) hX (pv_xload_n rfl rfl (pv_iload rfl rfl (pn_iconst (u := 2) rfl rfl (pn_iadd rfl (pn_scN rfl (by omega) hX (pv_nz rfl rfl rfl rfl (scN_lt _ _) (pv_virt rfl rfl rfl rfl rfl (oX12_k g1) rfl rfl rfl e2 (pv_istore rfl rfl (pv_aload_n rfl rfl (pv_virt rfl rfl rfl rfl rfl (oX12_k g1) rfl rfl rfl e3 (pv_iload rfl rfl (pv_ic_eq rfl (fun _ => (pv_iload rfl rfl (pv_if_ne rfl (fun _ => (pv_goto rfl KK)) (fun z => have lc := LC z; (pv_aload_n rfl rfl (pn_iconst (u := 0) rfl rfl (pn_lald rfl g2 (by decide) (by decide) (pv_iload rfl rfl (pv_if_eq rfl (fun e => absurd e (by decide)) (fun _ => (pv_lconst rfl (pv_goto rfl (pv_lcmp rfl (pv_if_eq rfl (fun _ => (pv_goto rfl KK)) (fun e => absurd lc e))))))))))))))) (fun e => absurd rfl e))))))))))))))))))))))))))))))))))
  | false =>
    rw [hb] at e2 hv KK
    have LC : nI (spFl (A 264) (scN X (i + 1)) 2 (sB (scN X (i + 2)))).1 = 0 → lg_cmp (jb 279 0) (Int64.ofNat 0) = 0 := fun z => by
      rw [show (spFl (A 264) (scN X (i + 1)) 2 (sB (scN X (i + 2)))).1 = 0 by rw [← nI_0, nn_eq] at z; omega] at hv
      rw [j9, hv rfl]; exact lcs _
    exact (pv_aload_n rfl rfl (pv_xload_n rfl rfl (pv_iload rfl rfl (pn_iconst (u := 1) rfl rfl (pn_iadd rfl (pn_scN rfl (by omega) hX (pv_xload_n rfl rfl (pv_iload rfl rfl (pn_iconst (u := 2) rfl rfl (pn_iadd rfl (pn_scN rfl (by omega) hX (pv_nz rfl rfl rfl rfl (scN_lt _ _) (pv_aload_n rfl rfl (pv_stat rfl rfl rfl rfl rfl rfl rfl rfl e1 (pv_istore rfl rfl (pv_aload_n rfl rfl (pv_xload_n rfl rfl (pv_iload rfl rfl (pn_iconst (u := 1) rfl rfl (pn_iadd rfl (pn_scN rfl (by omega) hX (pv_xload_n rfl rfl (pv_iload rfl rfl (pn_iconst (u := 2) rfl rfl (pn_iadd rfl (pn_scN rfl (by omega) hX (pv_nz rfl rfl rfl rfl (scN_lt _ _) (pv_virt rfl rfl rfl rfl rfl (oX12_k g1) rfl rfl rfl e2 (pv_istore rfl rfl (pv_aload_n rfl rfl (pv_virt rfl rfl rfl rfl rfl (oX12_k g1) rfl rfl rfl e3 (pv_iload rfl rfl (pv_ic_eq rfl (fun _ => (pv_iload rfl rfl (pv_if_ne rfl (fun _ => (pv_goto rfl KK)) (fun z => have lc := LC z; (pv_aload_n rfl rfl (pn_iconst (u := 0) rfl rfl (pn_lald rfl g2 (by decide) (by decide) (pv_iload rfl rfl (pv_if_eq rfl (fun _ => (pv_lconst rfl (pv_lcmp rfl (pv_if_eq rfl (fun _ => (pv_goto rfl KK)) (fun e => absurd lc e))))) (fun e => absurd rfl e)))))))))) (fun e => absurd rfl e))))))))))))))))))))))))))))))))))
theorem lw_c15 {X : gv_X} {d : Nat} {G : gv_Sh} {A : Nat → Nat → Nat} {j : Nat → Nat → Int64} {cc : gv_Rs} {P : gv_O × gv_S → Prop} {i : Nat} {l5 l6 : Option Value} (hg : ivG G) (hX : X.2 < 2147483648) (hi : i + 6 ≤ X.2) (I : ivI A j) (K : ivK X d G P i cc) : EvP X (d + 40) gvm_385 1098 [some (.retAddr 0), some (.ref 0), some (.ref 263), some (.ref 279), some (.int (nI i)), l5, l6] [] (G, (mI A, j), cc) P := by
  obtain ⟨g0, g1, g2, g3, g4⟩ := hg
  obtain ⟨Q, hQ, hq⟩ := I.2.2.2.2.2
  obtain ⟨B, jb, c1, k, hv, hj, hcl, le, e1⟩ := wr_363 (X := X) (d := d + 35) (G := G) (A := A) (j := j) (cc := cc) (p := (scN X (i + 1))) (b := (sB (scN X (i + 2)))) (R := (A 264)) (Q := Q) g0 g2 I.1 hQ (scN_lt _ _)
  have bh : ∀ q, 263 ≤ q → B q = A q := (frJ_hi k.2)
  have b4 : B 264 = A 264 := bh 264 (by decide)
  obtain ⟨o1, o2, o3, o4, o5, o6, o7⟩ := lw_o I bh (hj 274 (by decide))
  obtain ⟨C, e2, m⟩ := r_guard (X := X) (d := d + 35) (G := G) (A := B) (j := jb) (cc := c1) (op := (scN X (i + 1))) (b := (sB (scN X (i + 2)))) g1 (by rw [b4]; exact o1) o3 o4 (scN_lt _ _)
  rw [b4] at e2 m
  have ec : (if A 264 0 ≤ (scN X (i + 1)) then 1 else 0) = (spFl (A 264) (scN X (i + 1)) 1 (sB (scN X (i + 2)))).1 := by
    unfold spFl
    (repeat' split) <;> first | rfl | omega | contradiction
  have el : (decide ((scN X (i + 1)) < A 264 0) && !decide (A 264 (30 + 9 * (scN X (i + 1)) + 1) = Bool.toNat (sB (scN X (i + 2))))) = (spFl (A 264) (scN X (i + 1)) 1 (sB (scN X (i + 2)))).2 := by
    unfold spFl
    by_cases z : A 264 0 ≤ (scN X (i + 1))
    · rw [if_pos z, decide_eq_false (by omega), Bool.false_and]
    · rw [if_neg z, decide_eq_true (by omega), Bool.true_and]
  rw [ec] at m
  rw [el] at e2
  have hI : ivI C jb := ivI_a I hQ hq (fun _ => eqV_fl (Or.inl rfl)) k.1 k.2 m.1 m.2.1 m.2.2.1
  have m0 := m.2.2.2
  have e3 := r_thrown (X := X) (d := d + 39) (G := G) (A := C) (j := jb) (cc := c1) g1
  rw [m0] at e3
  have j9 : jb 279 = jb 279 := rfl
  have KK := K C jb c1 (some (.int (nI (spFl (A 264) (scN X (i + 1)) 1 (sB (scN X (i + 2)))).1))) (some (.int (zo (spFl (A 264) (scN X (i + 1)) 1 (sB (scN X (i + 2)))).2))) hI hcl
  cases hb : (spFl (A 264) (scN X (i + 1)) 1 (sB (scN X (i + 2)))).2 with
  | true =>
    rw [hb] at e2 hv KK
    have LC : nI (spFl (A 264) (scN X (i + 1)) 1 (sB (scN X (i + 2)))).1 = 0 → lg_cmp (jb 279 0) (Int64.ofNat 1) = 0 := fun z => by
      rw [show (spFl (A 264) (scN X (i + 1)) 1 (sB (scN X (i + 2)))).1 = 0 by rw [← nI_0, nn_eq] at z; omega] at hv
      rw [j9, hv rfl]; exact lcs _
    exact (pv_aload_n rfl rfl (pv_xload_n rfl rfl (pv_iload rfl rfl (pn_iconst (u := 1) rfl rfl (pn_iadd rfl (pn_scN rfl (by omega) hX (pv_xload_n rfl rfl (pv_iload rfl rfl (pn_iconst (u := 2) rfl rfl (pn_iadd rfl (pn_scN rfl (by omega) hX (pv_nz rfl rfl rfl rfl (scN_lt _ _) (pv_aload_n rfl rfl (pv_stat rfl rfl rfl rfl rfl rfl rfl rfl e1 (pv_istore rfl rfl (pv_aload_n rfl rfl (pv_xload_n rfl rfl (pv_iload rfl rfl (pn_iconst (u := 1) rfl rfl (pn_iadd rfl (pn_scN rfl (by omega) hX (pv_xload_n rfl rfl (pv_iload rfl rfl (pn_iconst (u := 2) rfl rfl (pn_iadd rfl (pn_scN rfl (by omega) hX (pv_nz rfl rfl rfl rfl (scN_lt _ _) (pv_virt rfl rfl rfl rfl rfl (oX12_k g1) rfl rfl rfl e2 (pv_istore rfl rfl (pv_aload_n rfl rfl (pv_virt rfl rfl rfl rfl rfl (oX12_k g1) rfl rfl rfl e3 (pv_iload rfl rfl (pv_ic_eq rfl (fun _ => (pv_iload rfl rfl (pv_if_ne rfl (fun _ => (pv_goto rfl KK)) (fun z => have lc := LC z; (pv_aload_n rfl rfl (pn_iconst (u := 0) rfl rfl (pn_lald rfl g2 (by decide) (by decide) (pv_iload rfl rfl (pv_if_eq rfl (fun e => absurd e (by decide)) (fun _ => (pv_lconst rfl (pv_goto rfl (pv_lcmp rfl (pv_if_eq rfl (fun _ => (pv_goto rfl KK)) (fun e => absurd lc e))))))))))))))) (fun e => absurd rfl e))))))))))))))))))))))))))))))))))
  | false =>
    rw [hb] at e2 hv KK
    have LC : nI (spFl (A 264) (scN X (i + 1)) 1 (sB (scN X (i + 2)))).1 = 0 → lg_cmp (jb 279 0) (Int64.ofNat 0) = 0 := fun z => by
      rw [show (spFl (A 264) (scN X (i + 1)) 1 (sB (scN X (i + 2)))).1 = 0 by rw [← nI_0, nn_eq] at z; omega] at hv
      rw [j9, hv rfl]; exact lcs _
    exact (pv_aload_n rfl rfl (pv_xload_n rfl rfl (pv_iload rfl rfl (pn_iconst (u := 1) rfl rfl (pn_iadd rfl (pn_scN rfl (by omega) hX (pv_xload_n rfl rfl (pv_iload rfl rfl (pn_iconst (u := 2) rfl rfl (pn_iadd rfl (pn_scN rfl (by omega) hX (pv_nz rfl rfl rfl rfl (scN_lt _ _) (pv_aload_n rfl rfl (pv_stat rfl rfl rfl rfl rfl rfl rfl rfl e1 (pv_istore rfl rfl (pv_aload_n rfl rfl (pv_xload_n rfl rfl (pv_iload rfl rfl (pn_iconst (u := 1) rfl rfl (pn_iadd rfl (pn_scN rfl (by omega) hX (pv_xload_n rfl rfl (pv_iload rfl rfl (pn_iconst (u := 2) rfl rfl (pn_iadd rfl (pn_scN rfl (by omega) hX (pv_nz rfl rfl rfl rfl (scN_lt _ _) (pv_virt rfl rfl rfl rfl rfl (oX12_k g1) rfl rfl rfl e2 (pv_istore rfl rfl (pv_aload_n rfl rfl (pv_virt rfl rfl rfl rfl rfl (oX12_k g1) rfl rfl rfl e3 (pv_iload rfl rfl (pv_ic_eq rfl (fun _ => (pv_iload rfl rfl (pv_if_ne rfl (fun _ => (pv_goto rfl KK)) (fun z => have lc := LC z; (pv_aload_n rfl rfl (pn_iconst (u := 0) rfl rfl (pn_lald rfl g2 (by decide) (by decide) (pv_iload rfl rfl (pv_if_eq rfl (fun _ => (pv_lconst rfl (pv_lcmp rfl (pv_if_eq rfl (fun _ => (pv_goto rfl KK)) (fun e => absurd lc e))))) (fun e => absurd rfl e)))))))))) (fun e => absurd rfl e))))))))))))))))))))))))))))))))))
