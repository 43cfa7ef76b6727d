/-! cases of the law: questions -/
theorem lw_c4 {X : gv_X} {d : Nat} {G : gv_Sh} {A : Nat → Nat → Nat} {j : Nat → Nat → Int64} {cc : gv_Rs} {P : gv_O × gv_S → Prop} {i : Nat} {l5 l6 : Option Value} (hg : ivG G) (hX : X.2 < 2147483648) (hi : i + 6 ≤ X.2) (I : ivI A j) (K : ivK X d G P i cc) : EvP X (d + 40) gvm_385 450 [some (.retAddr 0), some (.ref 0), some (.ref 263), some (.ref 279), some (.int (nI i)), l5, l6] [] (G, (mI A, j), cc) P := by
  obtain ⟨g0, g1, g2, g3, g4⟩ := hg
  have e1 := c_fault (X := X) (d := d + 39) (G := G) (A := A) (j := j) (cc := cc)   g0 
  have bh : ∀ q, 263 ≤ q → A q = A q := fun _ _ => rfl
  have b4 : A 264 = A 264 := bh 264 (by decide)
  obtain ⟨o1, o2, o3, o4, o5, o6, o7⟩ := lw_o I bh rfl
  have e2 := r_fault (X := X) (d := d + 39) (G := G) (A := A) (j := j) (cc := cc)  g1 
  have hI : ivI (gu A 263 0 0) j := ivI_0 (A := A) (j := j) I
  rw [I.2.2.2.1.2.1] at e1
  have KK := K (gu A 263 0 0) j cc l5 l6 hI (ccl_rf cc)
  exact (pv_aload_n rfl rfl (pv_virt rfl rfl rfl rfl rfl (oX11_k g0) rfl rfl rfl e1 (pv_aload_n rfl rfl (pv_virt rfl rfl rfl rfl rfl (oX12_k g1) rfl rfl rfl e2 (pv_ic_eq rfl (fun _ => KK) (fun e => absurd rfl e))))))
theorem lw_c5 {X : gv_X} {d : Nat} {G : gv_Sh} {A : Nat → Nat → Nat} {j : Nat → Nat → Int64} {cc : gv_Rs} {P : gv_O × gv_S → Prop} {i : Nat} {l5 l6 : Option Value} (hg : ivG G) (hX : X.2 < 2147483648) (hi : i + 6 ≤ X.2) (I : ivI A j) (K : ivK X d G P i cc) : EvP X (d + 40) gvm_385 463 [some (.retAddr 0), some (.ref 0), some (.ref 263), some (.ref 279), some (.int (nI i)), l5, l6] [] (G, (mI A, j), cc) P := by
  obtain ⟨g0, g1, g2, g3, g4⟩ := hg
  obtain ⟨B, jb, c1, k, hv, hj, hcl, le, e1⟩ := wr_355 (X := X) (d := d + 32) (G := G) (A := A) (j := j) (cc := cc) (p := (scN X (i + 1))) (h := (scN X (i + 2))) (R := (A 264)) g0 g2 I.1 (scN_lt _ _) (scN_lt _ _)
  have bh : ∀ q, 263 ≤ q → B q = A q := (frK_hi k.2)
  have b4 : B 264 = A 264 := bh 264 (by decide)
  obtain ⟨o1, o2, o3, o4, o5, o6, o7⟩ := lw_o I bh (hj 274 (by decide))
  obtain ⟨C, jc, e2, m⟩ := r_op (X := X) (d := d + 31) (G := G) (A := B) (j := jb) (cc := c1) (op := (scN X (i + 1))) (w := (scN X (i + 2))) g1 (by rw [b4]; exact o1) (by rw [b4]; exact o2) o3 (scN_lt _ _) (scN_lt _ _)
  have hI : ivI C jc := ivI_q I k.1 k.2 m.1 m.2.1
  have m0 := m.2.2
  rw [b4] at e2 m0
  have e3 := r_thrown (X := X) (d := d + 39) (G := G) (A := C) (j := jc) (cc := c1) g1
  rw [m0] at e3
  have j9 : jc 279 = jb 279 := ev_279 e2 (clT_c cl_263 (clT_c ((cl9_K 279).1 _) (clT_c ((cl9_K 279).1 _) clT_nil))) g3 g4
  have LC : nI (spOp (A 264) (scN X (i + 1)) (scN X (i + 2))).1 = 0 → lg_cmp (jc 279 0) (Int32.toInt64 (nI (spOp (A 264) (scN X (i + 1)) (scN X (i + 2))).2)) = 0 := fun z => by
    have z0 : (spOp (A 264) (scN X (i + 1)) (scN X (i + 2))).1 = 0 := by rw [← nI_0, nn_eq] at z; omega
    rw [j9, hv z0]; exact lcs _
  have KK := K C jc c1 (some (.int (nI (spOp (A 264) (scN X (i + 1)) (scN X (i + 2))).1))) (some (.int (nI (spOp (A 264) (scN X (i + 1)) (scN X (i + 2))).2))) hI hcl
  exact (pv_aload_n rfl rfl (pv_xload_n rfl rfl (pv_iload rfl rfl (pn_iconst (u := 1) rfl rfl (pn_iadd rfl (pn_scN rfl (by omega) hX (pv_xload_n rfl rfl (pv_iload rfl rfl (pn_iconst (u := 2) rfl rfl (pn_iadd rfl (pn_scN rfl (by omega) hX (pv_aload_n rfl rfl (pv_stat rfl rfl rfl rfl rfl rfl rfl rfl e1 (pv_istore rfl rfl (pv_aload_n rfl rfl (pv_xload_n rfl rfl (pv_iload rfl rfl (pn_iconst (u := 1) rfl rfl (pn_iadd rfl (pn_scN rfl (by omega) hX (pv_xload_n rfl rfl (pv_iload rfl rfl (pn_iconst (u := 2) rfl rfl (pn_iadd rfl (pn_scN rfl (by omega) hX (pv_virt rfl rfl rfl rfl rfl (oX12_k g1) rfl rfl rfl e2 (pv_istore rfl rfl (pv_aload_n rfl rfl (pv_virt rfl rfl rfl rfl rfl (oX12_k g1) rfl rfl rfl e3 (pv_iload rfl rfl (pv_ic_eq rfl (fun _ => (pv_iload rfl rfl (pv_if_ne rfl (fun _ => (pv_goto rfl KK)) (fun z => have lc := LC z; (pv_aload_n rfl rfl (pn_iconst (u := 0) rfl rfl (pn_lald rfl g2 (by decide) (by decide) (pv_iload rfl rfl (pv_i2l rfl (pv_lcmp rfl (pv_if_eq rfl (fun _ => (pv_goto rfl KK)) (fun e => absurd lc e)))))))))))) (fun e => absurd rfl e))))))))))))))))))))))))))))))))
theorem lw_c6 {X : gv_X} {d : Nat} {G : gv_Sh} {A : Nat → Nat → Nat} {j : Nat → Nat → Int64} {cc : gv_Rs} {P : gv_O × gv_S → Prop} {i : Nat} {l5 l6 : Option Value} (hg : ivG G) (hX : X.2 < 2147483648) (hi : i + 6 ≤ X.2) (I : ivI A j) (K : ivK X d G P i cc) : EvP X (d + 40) gvm_385 531 [some (.retAddr 0), some (.ref 0), some (.ref 263), some (.ref 279), some (.int (nI i)), l5, l6] [] (G, (mI A, j), cc) P := by
  obtain ⟨g0, g1, g2, g3, g4⟩ := hg
  obtain ⟨B, jb, c1, k, hv, hj, hcl, le, e1⟩ := wr_356 (X := X) (d := d + 36) (G := G) (A := A) (j := j) (cc := cc) (p := (scN X (i + 1))) (k := (scN X (i + 2))) (b := (sB (scN X (i + 3)))) (R := (A 264)) g0 g2 I.1 (scN_lt _ _) (scN_lt _ _)
  have bh : ∀ q, 263 ≤ q → B q = A q := (frK_hi k.2)
  have b4 : B 264 = A 264 := bh 264 (by decide)
  obtain ⟨o1, o2, o3, o4, o5, o6, o7⟩ := lw_o I bh (hj 274 (by decide))
  obtain ⟨C, e2, m⟩ := r_micro (X := X) (d := d + 36) (G := G) (A := B) (j := jb) (cc := c1) (op := (scN X (i + 1))) (k := (scN X (i + 2))) (n := (sB (scN X (i + 3)))) g1 (by rw [b4]; exact o1) o3 (scN_lt _ _) (scN_lt _ _)
  have hI : ivI C jb := ivI_q I k.1 k.2 m.1 m.2.1
  have m0 := m.2.2
  rw [b4] at e2 m0
  have e3 := r_thrown (X := X) (d := d + 39) (G := G) (A := C) (j := jb) (cc := c1) g1
  rw [m0] at e3
  have j9 : jb 279 = jb 279 := rfl
  have LC : nI (spMicro (A 264) (scN X (i + 1)) (scN X (i + 2)) (sB (scN X (i + 3)))).1 = 0 → lg_cmp (jb 279 0) (Int32.toInt64 (nI (spMicro (A 264) (scN X (i + 1)) (scN X (i + 2)) (sB (scN X (i + 3)))).2)) = 0 := fun z => by
    have z0 : (spMicro (A 264) (scN X (i + 1)) (scN X (i + 2)) (sB (scN X (i + 3)))).1 = 0 := by rw [← nI_0, nn_eq] at z; omega
    rw [j9, hv z0]; exact lcs _
  have KK := K C jb c1 (some (.int (nI (spMicro (A 264) (scN X (i + 1)) (scN X (i + 2)) (sB (scN X (i + 3)))).1))) (some (.int (nI (spMicro (A 264) (scN X (i + 1)) (scN X (i + 2)) (sB (scN X (i + 3)))).2))) hI hcl
  exact (pv_aload_n rfl rfl (pv_xload_n rfl rfl (pv_iload rfl rfl (pn_iconst (u := 1) rfl rfl (pn_iadd rfl (pn_scN rfl (by omega) hX (pv_xload_n rfl rfl (pv_iload rfl rfl (pn_iconst (u := 2) rfl rfl (pn_iadd rfl (pn_scN rfl (by omega) hX (pv_xload_n rfl rfl (pv_iload rfl rfl (pn_iconst (u := 3) rfl rfl (pn_iadd rfl (pn_scN rfl (by omega) hX (pv_nz rfl rfl rfl rfl (scN_lt _ _) (pv_aload_n rfl rfl (pv_stat rfl rfl rfl rfl rfl rfl rfl rfl e1 (pv_istore rfl rfl (pv_aload_n rfl rfl (pv_xload_n rfl rfl (pv_iload rfl rfl (pn_iconst (u := 1) rfl rfl (pn_iadd rfl (pn_scN rfl (by omega) hX (pv_xload_n rfl rfl (pv_iload rfl rfl (pn_iconst (u := 2) rfl rfl (pn_iadd rfl (pn_scN rfl (by omega) hX (pv_xload_n rfl rfl (pv_iload rfl rfl (pn_iconst (u := 3) rfl rfl (pn_iadd rfl (pn_scN rfl (by omega) hX (pv_nz rfl rfl rfl rfl (scN_lt _ _) (pv_virt rfl rfl rfl rfl rfl (oX12_k g1) rfl rfl rfl e2 (pv_istore rfl rfl (pv_aload_n rfl rfl (pv_virt rfl rfl rfl rfl rfl (oX12_k g1) rfl rfl rfl e3 (pv_iload rfl rfl (pv_ic_eq rfl (fun _ => (pv_iload rfl rfl (pv_if_ne rfl (fun _ => (pv_goto rfl KK)) (fun z => have lc := LC z; (pv_aload_n rfl rfl (pn_iconst (u := 0) rfl rfl (pn_lald rfl g2 (by decide) (by decide) (pv_iload rfl rfl (pv_i2l rfl (pv_lcmp rfl (pv_if_eq rfl (fun _ => (pv_goto rfl KK)) (fun e => absurd lc e)))))))))))) (fun e => absurd rfl e))))))))))))))))))))))))))))))))))))))))))))
theorem lw_c7 {X : gv_X} {d : Nat} {G : gv_Sh} {A : Nat → Nat → Nat} {j : Nat → Nat → Int64} {cc : gv_Rs} {P : gv_O × gv_S → Prop} {i : Nat} {l5 l6 : Option Value} (hg : ivG G) (hX : X.2 < 2147483648) (hi : i + 6 ≤ X.2) (I : ivI A j) (K : ivK X d G P i cc) : EvP X (d + 40) gvm_385 627 [some (.retAddr 0), some (.ref 0), some (.ref 263), some (.ref 279), some (.int (nI i)), l5, l6] [] (G, (mI A, j), cc) P := by
  obtain ⟨g0, g1, g2, g3, g4⟩ := hg
  obtain ⟨B, jb, c1, k, hv, hj, hcl, le, e1⟩ := wr_357 (X := X) (d := d + 32) (G := G) (A := A) (j := j) (cc := cc) (p := (scN X (i + 1))) (h := (scN X (i + 2))) (R := (A 264)) g0 g2 I.1 (scN_lt _ _) (scN_lt _ _)
  have bh : ∀ q, 263 ≤ q → B q = A q := (frK_hi k.2)
  have b4 : B 264 = A 264 := bh 264 (by decide)
  obtain ⟨o1, o2, o3, o4, o5, o6, o7⟩ := lw_o I bh (hj 274 (by decide))
  obtain ⟨C, e2, m⟩ := r_witness (X := X) (d := d + 32) (G := G) (A := B) (j := jb) (cc := c1) (op := (scN X (i + 1))) (w := (scN X (i + 2))) g1 (by rw [b4]; exact o1) o3 (scN_lt _ _) (scN_lt _ _)
  have hI : ivI C jb := ivI_q I k.1 k.2 m.1 m.2.1
  have m0 := m.2.2
  rw [b4] at e2 m0
  have e3 := r_thrown (X := X) (d := d + 39) (G := G) (A := C) (j := jb) (cc := c1) g1
  rw [m0] at e3
  have j9 : jb 279 = jb 279 := rfl
  have LC : nI (spWitness (A 264) (scN X (i + 1)) (scN X (i + 2))).1 = 0 → lg_cmp (jb 279 0) (Int32.toInt64 (nI (spWitness (A 264) (scN X (i + 1)) (scN X (i + 2))).2)) = 0 := fun z => by
    have z0 : (spWitness (A 264) (scN X (i + 1)) (scN X (i + 2))).1 = 0 := by rw [← nI_0, nn_eq] at z; omega
    rw [j9, hv z0]; exact lcs _
  have KK := K C jb c1 (some (.int (nI (spWitness (A 264) (scN X (i + 1)) (scN X (i + 2))).1))) (some (.int (nI (spWitness (A 264) (scN X (i + 1)) (scN X (i + 2))).2))) hI hcl
  exact (pv_aload_n rfl rfl (pv_xload_n rfl rfl (pv_iload rfl rfl (pn_iconst (u := 1) rfl rfl (pn_iadd rfl (pn_scN rfl (by omega) hX (pv_xload_n rfl rfl (pv_iload rfl rfl (pn_iconst (u := 2) rfl rfl (pn_iadd rfl (pn_scN rfl (by omega) hX (pv_aload_n rfl rfl (pv_stat rfl rfl rfl rfl rfl rfl rfl rfl e1 (pv_istore rfl rfl (pv_aload_n rfl rfl (pv_xload_n rfl rfl (pv_iload rfl rfl (pn_iconst (u := 1) rfl rfl (pn_iadd rfl (pn_scN rfl (by omega) hX (pv_xload_n rfl rfl (pv_iload rfl rfl (pn_iconst (u := 2) rfl rfl (pn_iadd rfl (pn_scN rfl (by omega) hX (pv_virt rfl rfl rfl rfl rfl (oX12_k g1) rfl rfl rfl e2 (pv_istore rfl rfl (pv_aload_n rfl rfl (pv_virt rfl rfl rfl rfl rfl (oX12_k g1) rfl rfl rfl e3 (pv_iload rfl rfl (pv_ic_eq rfl (fun _ => (pv_iload rfl rfl (pv_if_ne rfl (fun _ => (pv_goto rfl KK)) (fun z => have lc := LC z; (pv_aload_n rfl rfl (pn_iconst (u := 0) rfl rfl (pn_lald rfl g2 (by decide) (by decide) (pv_iload rfl rfl (pv_i2l rfl (pv_lcmp rfl (pv_if_eq rfl (fun _ => (pv_goto rfl KK)) (fun e => absurd lc e)))))))))))) (fun e => absurd rfl e))))))))))))))))))))))))))))))))
theorem lw_c8 {X : gv_X} {d : Nat} {G : gv_Sh} {A : Nat → Nat → Nat} {j : Nat → Nat → Int64} {cc : gv_Rs} {P : gv_O × gv_S → Prop} {i : Nat} {l5 l6 : Option Value} (hg : ivG G) (hX : X.2 < 2147483648) (hi : i + 6 ≤ X.2) (I : ivI A j) (K : ivK X d G P i cc) : EvP X (d + 40) gvm_385 695 [some (.retAddr 0), some (.ref 0), some (.ref 263), some (.ref 279), some (.int (nI i)), l5, l6] [] (G, (mI A, j), cc) P := by
  obtain ⟨g0, g1, g2, g3, g4⟩ := hg
  obtain ⟨B, jb, c1, k, hv, hj, hcl, le, e1⟩ := wr_358 (X := X) (d := d + 35) (G := G) (A := A) (j := j) (cc := cc) (p := (scN X (i + 1))) (s := (scN X (i + 2))) (h := (scN X (i + 3))) (R := (A 264)) g0 g2 I.1 (scN_lt _ _) (scN_lt _ _) (scN_lt _ _)
  have bh : ∀ q, 263 ≤ q → B q = A q := (frK_hi k.2)
  have b4 : B 264 = A 264 := bh 264 (by decide)
  obtain ⟨o1, o2, o3, o4, o5, o6, o7⟩ := lw_o I bh (hj 274 (by decide))
  obtain ⟨C, e2, m⟩ := r_done (X := X) (d := d + 35) (G := G) (A := B) (j := jb) (cc := c1) (op := (scN X (i + 1))) (s := (scN X (i + 2))) (w := (scN X (i + 3))) g1 (by rw [b4]; exact o1) o3 (scN_lt _ _) (scN_lt _ _) (scN_lt _ _)
  have hI : ivI C jb := ivI_q I k.1 k.2 m.1 m.2.1
  have m0 := m.2.2
  rw [b4] at e2 m0
  have e3 := r_thrown (X := X) (d := d + 39) (G := G) (A := C) (j := jb) (cc := c1) g1
  rw [m0] at e3
  have j9 : jb 279 = jb 279 := rfl
  have LC : nI (spDone (A 264) (scN X (i + 1)) (scN X (i + 2)) (scN X (i + 3))).1 = 0 → lg_cmp (jb 279 0) (Int32.toInt64 (nI (spDone (A 264) (scN X (i + 1)) (scN X (i + 2)) (scN X (i + 3))).2)) = 0 := fun z => by
    have z0 : (spDone (A 264) (scN X (i + 1)) (scN X (i + 2)) (scN X (i + 3))).1 = 0 := by rw [← nI_0, nn_eq] at z; omega
    rw [j9, hv z0]; exact lcs _
  have KK := K C jb c1 (some (.int (nI (spDone (A 264) (scN X (i + 1)) (scN X (i + 2)) (scN X (i + 3))).1))) (some (.int (nI (spDone (A 264) (scN X (i + 1)) (scN X (i + 2)) (scN X (i + 3))).2))) hI hcl
  exact (pv_aload_n rfl rfl (pv_xload_n rfl rfl (pv_iload rfl rfl (pn_iconst (u := 1) rfl rfl (pn_iadd rfl (pn_scN rfl (by omega) hX (pv_xload_n rfl rfl (pv_iload rfl rfl (pn_iconst (u := 2) rfl rfl (pn_iadd rfl (pn_scN rfl (by omega) hX (pv_xload_n rfl rfl (pv_iload rfl rfl (pn_iconst (u := 3) rfl rfl (pn_iadd rfl (pn_scN rfl (by omega) hX (pv_aload_n rfl rfl (pv_stat rfl rfl rfl rfl rfl rfl rfl rfl e1 (pv_istore rfl rfl (pv_aload_n rfl rfl (pv_xload_n rfl rfl (pv_iload rfl rfl (pn_iconst (u := 1) rfl rfl (pn_iadd rfl (pn_scN rfl (by omega) hX (pv_xload_n rfl rfl (pv_iload rfl rfl (pn_iconst (u := 2) rfl rfl (pn_iadd rfl (pn_scN rfl (by omega) hX (pv_xload_n rfl rfl (pv_iload rfl rfl (pn_iconst (u := 3) rfl rfl (pn_iadd rfl (pn_scN rfl (by omega) hX (pv_virt rfl rfl rfl rfl rfl (oX12_k g1) rfl rfl rfl e2 (pv_istore rfl rfl (pv_aload_n rfl rfl (pv_virt rfl rfl rfl rfl rfl (oX12_k g1) rfl rfl rfl e3 (pv_iload rfl rfl (pv_ic_eq rfl (fun _ => (pv_iload rfl rfl (pv_if_ne rfl (fun _ => (pv_goto rfl KK)) (fun z => have lc := LC z; (pv_aload_n rfl rfl (pn_iconst (u := 0) rfl rfl (pn_lald rfl g2 (by decide) (by decide) (pv_iload rfl rfl (pv_i2l rfl (pv_lcmp rfl (pv_if_eq rfl (fun _ => (pv_goto rfl KK)) (fun e => absurd lc e)))))))))))) (fun e => absurd rfl e))))))))))))))))))))))))))))))))))))))))))
theorem lw_c9 {X : gv_X} {d : Nat} {G : gv_Sh} {A : Nat → Nat → Nat} {j : Nat → Nat → Int64} {cc : gv_Rs} {P : gv_O × gv_S → Prop} {i : Nat} {l5 l6 : Option Value} (hg : ivG G) (hX : X.2 < 2147483648) (hi : i + 6 ≤ X.2) (I : ivI A j) (K : ivK X d G P i cc) : EvP X (d + 40) gvm_385 775 [some (.retAddr 0), some (.ref 0), some (.ref 263), some (.ref 279), some (.int (nI i)), l5, l6] [] (G, (mI A, j), cc) P := by
  obtain ⟨g0, g1, g2, g3, g4⟩ := hg
  have e1 := c_program (X := X) (d := d + 38) (G := G) (A := A) (j := j) (cc := cc) (k := (scN X (i + 1))) (R := (A 264)) g0 I.1 (scN_lt _ _)
  have bh : ∀ q, 263 ≤ q → A q = A q := fun _ _ => rfl
  have b4 : A 264 = A 264 := bh 264 (by decide)
  obtain ⟨o1, o2, o3, o4, o5, o6, o7⟩ := lw_o I bh rfl
  have e2 := r_program (X := X) (d := d + 38) (G := G) (A := A) (j := j) (cc := cc) (k := (scN X (i + 1))) g1 (by rw [b4]; exact o1) (scN_lt _ _)
  have hI : ivI (gu A 263 0 0) j := ivI_0 (A := A) (j := j) I
  have KK := K (gu A 263 0 0) j cc l5 l6 hI (ccl_rf cc)
  exact (pv_aload_n rfl rfl (pv_xload_n rfl rfl (pv_iload rfl rfl (pn_iconst (u := 1) rfl rfl (pn_iadd rfl (pn_scN rfl (by omega) hX (pv_virt rfl rfl rfl rfl rfl (oX11_k g0) rfl rfl rfl e1 (pv_aload_n rfl rfl (pv_xload_n rfl rfl (pv_iload rfl rfl (pn_iconst (u := 1) rfl rfl (pn_iadd rfl (pn_scN rfl (by omega) hX (pv_virt rfl rfl rfl rfl rfl (oX12_k g1) rfl rfl rfl e2 (pv_ic_eq rfl (fun _ => KK) (fun e => absurd rfl e))))))))))))))))
theorem lw_c10 {X : gv_X} {d : Nat} {G : gv_Sh} {A : Nat → Nat → Nat} {j : Nat → Nat → Int64} {cc : gv_Rs} {P : gv_O × gv_S → Prop} {i : Nat} {l5 l6 : Option Value} (hg : ivG G) (hX : X.2 < 2147483648) (hi : i + 6 ≤ X.2) (I : ivI A j) (K : ivK X d G P i cc) : EvP X (d + 40) gvm_385 800 [some (.retAddr 0), some (.ref 0), some (.ref 263), some (.ref 279), some (.int (nI i)), l5, l6] [] (G, (mI A, j), cc) P := by
  obtain ⟨g0, g1, g2, g3, g4⟩ := hg
  obtain ⟨B, jb, c1, k, hv, hj, hcl, le, e1⟩ := wr_359 (X := X) (d := d + 37) (G := G) (A := A) (j := j) (cc := cc) (c := (scN X (i + 1))) (R := (A 264)) g0 g2 I.1 (scN_lt _ _)
  have bh : ∀ q, 263 ≤ q → B q = A q := (frK_hi k.2)
  have b4 : B 264 = A 264 := bh 264 (by decide)
  obtain ⟨o1, o2, o3, o4, o5, o6, o7⟩ := lw_o I bh (hj 274 (by decide))
  obtain ⟨C, e2, m⟩ := r_cell (X := X) (d := d + 37) (G := G) (A := B) (j := jb) (cc := c1) (k := (scN X (i + 1))) g1 (by rw [b4]; exact o1) o3 (scN_lt _ _)
  have hI : ivI C jb := ivI_q I k.1 k.2 m.1 m.2.1
  have m0 := m.2.2
  rw [b4] at e2 m0
  have e3 := r_thrown (X := X) (d := d + 39) (G := G) (A := C) (j := jb) (cc := c1) g1
  rw [m0] at e3
  have j9 : jb 279 = jb 279 := rfl
  have LC : nI (spCell (A 264) (scN X (i + 1))).1 = 0 → lg_cmp (jb 279 0) (Int32.toInt64 (nI (spCell (A 264) (scN X (i + 1))).2)) = 0 := fun z => by
    have z0 : (spCell (A 264) (scN X (i + 1))).1 = 0 := by rw [← nI_0, nn_eq] at z; omega
    rw [j9, hv z0]; exact lcs _
  have KK := K C jb c1 (some (.int (nI (spCell (A 264) (scN X (i + 1))).1))) (some (.int (nI (spCell (A 264) (scN X (i + 1))).2))) hI hcl
  exact (pv_aload_n rfl rfl (pv_xload_n rfl rfl (pv_iload rfl rfl (pn_iconst (u := 1) rfl rfl (pn_iadd rfl (pn_scN rfl (by omega) hX (pv_aload_n rfl rfl (pv_stat rfl rfl rfl rfl rfl rfl rfl rfl e1 (pv_istore rfl rfl (pv_aload_n rfl rfl (pv_xload_n rfl rfl (pv_iload rfl rfl (pn_iconst (u := 1) rfl rfl (pn_iadd rfl (pn_scN rfl (by omega) hX (pv_virt rfl rfl rfl rfl rfl (oX12_k g1) rfl rfl rfl e2 (pv_istore rfl rfl (pv_aload_n rfl rfl (pv_virt rfl rfl rfl rfl rfl (oX12_k g1) rfl rfl rfl e3 (pv_iload rfl rfl (pv_ic_eq rfl (fun _ => (pv_iload rfl rfl (pv_if_ne rfl (fun _ => (pv_goto rfl KK)) (fun z => have lc := LC z; (pv_aload_n rfl rfl (pn_iconst (u := 0) rfl rfl (pn_lald rfl g2 (by decide) (by decide) (pv_iload rfl rfl (pv_i2l rfl (pv_lcmp rfl (pv_if_eq rfl (fun _ => (pv_goto rfl KK)) (fun e => absurd lc e)))))))))))) (fun e => absurd rfl e))))))))))))))))))))))
theorem lw_c11 {X : gv_X} {d : Nat} {G : gv_Sh} {A : Nat → Nat → Nat} {j : Nat → Nat → Int64} {cc : gv_Rs} {P : gv_O × gv_S → Prop} {i : Nat} {l5 l6 : Option Value} (hg : ivG G) (hX : X.2 < 2147483648) (hi : i + 6 ≤ X.2) (I : ivI A j) (K : ivK X d G P i cc) : EvP X (d + 40) gvm_385 856 [some (.retAddr 0), some (.ref 0), some (.ref 263), some (.ref 279), some (.int (nI i)), l5, l6] [] (G, (mI A, j), cc) P := by
  obtain ⟨g0, g1, g2, g3, g4⟩ := hg
  obtain ⟨B, jb, c1, k, hv, hj, hcl, le, e1⟩ := wr_360 (X := X) (d := d + 37) (G := G) (A := A) (j := j) (cc := cc) (b := (sB (scN X (i + 1)))) (h := (scN X (i + 2))) (R := (A 264)) g0 g2 I.1 (scN_lt _ _)
  have bh : ∀ q, 263 ≤ q → B q = A q := (frK_hi k.2)
  have b4 : B 264 = A 264 := bh 264 (by decide)
  obtain ⟨o1, o2, o3, o4, o5, o6, o7⟩ := lw_o I bh (hj 274 (by decide))
  obtain ⟨C, e2, m⟩ := r_guest (X := X) (d := d + 36) (G := G) (A := B) (j := jb) (cc := c1) (h := (sB (scN X (i + 1)))) (w := (scN X (i + 2))) g1 (by rw [b4]; exact o1) o3 (scN_lt _ _)
  have hI : ivI C jb := ivI_q I k.1 k.2 m.1 m.2.1
  have m0 := m.2.2
  rw [b4] at e2 m0
  have e3 := r_thrown (X := X) (d := d + 39) (G := G) (A := C) (j := jb) (cc := c1) g1
  rw [m0] at e3
  have j9 : jb 279 = jb 279 := rfl
  have LC : nI (spGuest (A 264) (sB (scN X (i + 1))) (scN X (i + 2))).1 = 0 → lg_cmp (jb 279 0) (Int32.toInt64 (nI (spGuest (A 264) (sB (scN X (i + 1))) (scN X (i + 2))).2)) = 0 := fun z => by
    have z0 : (spGuest (A 264) (sB (scN X (i + 1))) (scN X (i + 2))).1 = 0 := by rw [← nI_0, nn_eq] at z; omega
    rw [j9, hv z0]; exact lcs _
  have KK := K C jb c1 (some (.int (nI (spGuest (A 264) (sB (scN X (i + 1))) (scN X (i + 2))).1))) (some (.int (nI (spGuest (A 264) (sB (scN X (i + 1))) (scN X (i + 2))).2))) hI hcl
  exact (pv_aload_n rfl rfl (pv_xload_n rfl rfl (pv_iload rfl rfl (pn_iconst (u := 1) rfl rfl (pn_iadd rfl (pn_scN rfl (by omega) hX (pv_nz rfl rfl rfl rfl (scN_lt _ _) (pv_xload_n rfl rfl (pv_iload rfl rfl (pn_iconst (u := 2) rfl rfl (pn_iadd rfl (pn_scN rfl (by omega) hX (pv_aload_n rfl rfl (pv_stat rfl rfl rfl rfl rfl rfl rfl rfl e1 (pv_istore rfl rfl (pv_aload_n rfl rfl (pv_xload_n rfl rfl (pv_iload rfl rfl (pn_iconst (u := 1) rfl rfl (pn_iadd rfl (pn_scN rfl (by omega) hX (pv_nz rfl rfl rfl rfl (scN_lt _ _) (pv_xload_n rfl rfl (pv_iload rfl rfl (pn_iconst (u := 2) rfl rfl (pn_iadd rfl (pn_scN rfl (by omega) hX (pv_virt rfl rfl rfl rfl rfl (oX12_k g1) rfl rfl rfl e2 (pv_istore rfl rfl (pv_aload_n rfl rfl (pv_virt rfl rfl rfl rfl rfl (oX12_k g1) rfl rfl rfl e3 (pv_iload rfl rfl (pv_ic_eq rfl (fun _ => (pv_iload rfl rfl (pv_if_ne rfl (fun _ => (pv_goto rfl KK)) (fun z => have lc := LC z; (pv_aload_n rfl rfl (pn_iconst (u := 0) rfl rfl (pn_lald rfl g2 (by decide) (by decide) (pv_iload rfl rfl (pv_i2l rfl (pv_lcmp rfl (pv_if_eq rfl (fun _ => (pv_goto rfl KK)) (fun e => absurd lc e)))))))))))) (fun e => absurd rfl e))))))))))))))))))))))))))))))))))
