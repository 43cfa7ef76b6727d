/-! cases of the law: questions -/
theorem lw_c22 {X : gv_X} {d : Nat} {G : gv_Sh} {A : Nat → Nat → Nat} {j : Nat → Nat → Int64} {cc : gv_Rs} {P : gv_O × gv_S → Prop} {i : Nat} {l5 l6 : Option Value} (hg : ivG G) (hX : X.2 < 2147483648) (hi : i + 6 ≤ X.2) (I : ivI A j) (K : ivK X d G P i cc) : EvP X (d + 40) gvm_385 1549 [some (.retAddr 0), some (.ref 0), some (.ref 263), some (.ref 279), some (.int (nI i)), l5, l6] [] (G, (mI A, j), cc) P := by
  obtain ⟨g0, g1, g2, g3, g4⟩ := hg
  obtain ⟨B, e1, k⟩ := c_hostable (X := X) (d := d + 32) (G := G) (A := A) (j := j) (cc := cc)  (R := (A 264)) g0 I.1
  have bh : ∀ q, 263 ≤ q → B q = A q := (frK_hi k.2)
  have b4 : B 264 = A 264 := bh 264 (by decide)
  obtain ⟨o1, o2, o3, o4, o5, o6, o7⟩ := lw_o I bh rfl
  obtain ⟨C, jc, e2, m⟩ := r_hostable (X := X) (d := d + 30) (G := G) (A := B) (j := j) (cc := cc)  g1 (by rw [b4]; exact o1) o3
  have hI : ivI C jc := ivI_q I k.1 k.2 m.1 m.2.1
  rw [b4] at e2
  have KK := K C jc cc l5 l6 hI (ccl_rf cc)
  exact (pv_aload_n rfl rfl (pv_virt rfl rfl rfl rfl rfl (oX11_k g0) rfl rfl rfl e1 (pv_aload_n rfl rfl (pv_virt rfl rfl rfl rfl rfl (oX12_k g1) rfl rfl rfl e2 (pv_ic_eq rfl (fun _ => KK) (fun e => absurd rfl e))))))
theorem lw_c23 {X : gv_X} {d : Nat} {G : gv_Sh} {A : Nat → Nat → Nat} {j : Nat → Nat → Int64} {cc : gv_Rs} {P : gv_O × gv_S → Prop} {i : Nat} {l5 l6 : Option Value} (hg : ivG G) (hX : X.2 < 2147483648) (hi : i + 6 ≤ X.2) (I : ivI A j) (K : ivK X d G P i cc) : EvP X (d + 40) gvm_385 1562 [some (.retAddr 0), some (.ref 0), some (.ref 263), some (.ref 279), some (.int (nI i)), l5, l6] [] (G, (mI A, j), cc) P := by
  obtain ⟨g0, g1, g2, g3, g4⟩ := hg
  have e1 := c_alike (X := X) (d := d + 36) (G := G) (A := A) (j := j) (cc := cc)  (R := (A 264)) g0 I.1
  have bh : ∀ q, 263 ≤ q → A q = A q := fun _ _ => rfl
  have b4 : A 264 = A 264 := bh 264 (by decide)
  obtain ⟨o1, o2, o3, o4, o5, o6, o7⟩ := lw_o I bh rfl
  have e2 := r_alike (X := X) (d := d + 36) (G := G) (A := A) (j := j) (cc := cc)  g1 (by rw [b4]; exact o1)
  have hI : ivI (gu A 263 0 0) j := ivI_0 (A := A) (j := j) I
  have KK := K (gu A 263 0 0) j cc l5 l6 hI (ccl_rf cc)
  exact (pv_aload_n rfl rfl (pv_virt rfl rfl rfl rfl rfl (oX11_k g0) rfl rfl rfl e1 (pv_aload_n rfl rfl (pv_virt rfl rfl rfl rfl rfl (oX12_k g1) rfl rfl rfl e2 (pv_ic_eq rfl (fun _ => KK) (fun e => absurd rfl e))))))
theorem lw_c24 {X : gv_X} {d : Nat} {G : gv_Sh} {A : Nat → Nat → Nat} {j : Nat → Nat → Int64} {cc : gv_Rs} {P : gv_O × gv_S → Prop} {i : Nat} {l5 l6 : Option Value} (hg : ivG G) (hX : X.2 < 2147483648) (hi : i + 6 ≤ X.2) (I : ivI A j) (K : ivK X d G P i cc) : EvP X (d + 40) gvm_385 1575 [some (.retAddr 0), some (.ref 0), some (.ref 263), some (.ref 279), some (.int (nI i)), l5, l6] [] (G, (mI A, j), cc) P := by
  obtain ⟨g0, g1, g2, g3, g4⟩ := hg
  obtain ⟨B, e1, k⟩ := c_leaks (X := X) (d := d + 32) (G := G) (A := A) (j := j) (cc := cc)  (R := (A 264)) g0 I.1
  have bh : ∀ q, 263 ≤ q → B q = A q := (frK_hi k.2)
  have b4 : B 264 = A 264 := bh 264 (by decide)
  obtain ⟨o1, o2, o3, o4, o5, o6, o7⟩ := lw_o I bh rfl
  obtain ⟨C, jc, e2, m⟩ := r_leaks (X := X) (d := d + 31) (G := G) (A := B) (j := j) (cc := cc)  g1 (by rw [b4]; exact o1) (by rw [b4]; exact o2) o3
  have hI : ivI C jc := ivI_q I k.1 k.2 m.1 m.2.1
  rw [b4] at e2
  have KK := K C jc cc l5 l6 hI (ccl_rf cc)
  exact (pv_aload_n rfl rfl (pv_virt rfl rfl rfl rfl rfl (oX11_k g0) rfl rfl rfl e1 (pv_aload_n rfl rfl (pv_virt rfl rfl rfl rfl rfl (oX12_k g1) rfl rfl rfl e2 (pv_ic_eq rfl (fun _ => KK) (fun e => absurd rfl e))))))
theorem lw_c25 {X : gv_X} {d : Nat} {G : gv_Sh} {A : Nat → Nat → Nat} {j : Nat → Nat → Int64} {cc : gv_Rs} {P : gv_O × gv_S → Prop} {i : Nat} {l5 l6 : Option Value} (hg : ivG G) (hX : X.2 < 2147483648) (hi : i + 6 ≤ X.2) (I : ivI A j) (K : ivK X d G P i cc) : EvP X (d + 40) gvm_385 1588 [some (.retAddr 0), some (.ref 0), some (.ref 263), some (.ref 279), some (.int (nI i)), l5, l6] [] (G, (mI A, j), cc) P := by
  obtain ⟨g0, g1, g2, g3, g4⟩ := hg
  obtain ⟨B, jb, c1, k, hv, hj, hcl, le, e1⟩ := wr_370 (X := X) (d := d + 31) (G := G) (A := A) (j := j) (cc := cc) (n := (scN X (i + 1))) (R := (A 264)) g0 g2 I.1 (scN_lt _ _)
  have bh : ∀ q, 263 ≤ q → B q = A q := (frK_hi k.2)
  have b4 : B 264 = A 264 := bh 264 (by decide)
  obtain ⟨o1, o2, o3, o4, o5, o6, o7⟩ := lw_o I bh (hj 274 (by decide))
  obtain ⟨C, jc, e2, m⟩ := r_traps (X := X) (d := d + 30) (G := G) (A := B) (j := jb) (cc := c1) (n := (scN X (i + 1))) g1 (by rw [b4]; exact o1) (by rw [b4]; exact o2) o3 (scN_lt _ _)
  have hI : ivI C jc := ivI_q I k.1 k.2 m.1 m.2.1
  have m0 := m.2.2
  rw [b4] at e2 m0
  have e3 := r_thrown (X := X) (d := d + 39) (G := G) (A := C) (j := jc) (cc := c1) g1
  rw [m0] at e3
  have j9 : jc 279 = jb 279 := ev_279 e2 (clT_c cl_263 (clT_c ((cl9_K 279).1 _) clT_nil)) g3 g4
  have LC : nI (spTraps (A 264) (scN X (i + 1))).1 = 0 → lg_cmp (jc 279 0) (Int32.toInt64 (nI (spTraps (A 264) (scN X (i + 1))).2)) = 0 := fun z => by
    have z0 : (spTraps (A 264) (scN X (i + 1))).1 = 0 := by rw [← nI_0, nn_eq] at z; omega
    rw [j9, hv z0]; exact lcs _
  have KK := K C jc c1 (some (.int (nI (spTraps (A 264) (scN X (i + 1))).1))) (some (.int (nI (spTraps (A 264) (scN X (i + 1))).2))) hI hcl
  exact (pv_aload_n rfl rfl (pv_xload_n rfl rfl (pv_iload rfl rfl (pn_iconst (u := 1) rfl rfl (pn_iadd rfl (pn_scN rfl (by omega) hX (pv_aload_n rfl rfl (pv_stat rfl rfl rfl rfl rfl rfl rfl rfl e1 (pv_istore rfl rfl (pv_aload_n rfl rfl (pv_xload_n rfl rfl (pv_iload rfl rfl (pn_iconst (u := 1) rfl rfl (pn_iadd rfl (pn_scN rfl (by omega) hX (pv_virt rfl rfl rfl rfl rfl (oX12_k g1) rfl rfl rfl e2 (pv_istore rfl rfl (pv_aload_n rfl rfl (pv_virt rfl rfl rfl rfl rfl (oX12_k g1) rfl rfl rfl e3 (pv_iload rfl rfl (pv_ic_eq rfl (fun _ => (pv_iload rfl rfl (pv_if_ne rfl (fun _ => (pv_goto rfl KK)) (fun z => have lc := LC z; (pv_aload_n rfl rfl (pn_iconst (u := 0) rfl rfl (pn_lald rfl g2 (by decide) (by decide) (pv_iload rfl rfl (pv_i2l rfl (pv_lcmp rfl (pv_if_eq rfl (fun _ => (pv_goto rfl KK)) (fun e => absurd lc e)))))))))))) (fun e => absurd rfl e))))))))))))))))))))))
theorem lw_c26 {X : gv_X} {d : Nat} {G : gv_Sh} {A : Nat → Nat → Nat} {j : Nat → Nat → Int64} {cc : gv_Rs} {P : gv_O × gv_S → Prop} {i : Nat} {l5 l6 : Option Value} (hg : ivG G) (hX : X.2 < 2147483648) (hi : i + 6 ≤ X.2) (I : ivI A j) (K : ivK X d G P i cc) : EvP X (d + 40) gvm_385 1644 [some (.retAddr 0), some (.ref 0), some (.ref 263), some (.ref 279), some (.int (nI i)), l5, l6] [] (G, (mI A, j), cc) P := by
  obtain ⟨g0, g1, g2, g3, g4⟩ := hg
  obtain ⟨B, jb, c1, k, hv, hj, hcl, le, e1⟩ := wr_371 (X := X) (d := d + 31) (G := G) (A := A) (j := j) (cc := cc) (n := (scN X (i + 1))) (d5 := (scN X (i + 2))) (R := (A 264)) g0 g2 I.1 (scN_lt _ _) (scN_lt _ _)
  have bh : ∀ q, 263 ≤ q → B q = A q := (frK_hi k.2)
  have b4 : B 264 = A 264 := bh 264 (by decide)
  obtain ⟨o1, o2, o3, o4, o5, o6, o7⟩ := lw_o I bh (hj 274 (by decide))
  obtain ⟨C, jc, e2, m⟩ := r_depth (X := X) (d := d + 30) (G := G) (A := B) (j := jb) (cc := c1) (n := (scN X (i + 1))) (k := (scN X (i + 2))) g1 (by rw [b4]; exact o1) (by rw [b4]; exact o2) o3 (scN_lt _ _) (scN_lt _ _)
  have hI : ivI C jc := ivI_q I k.1 k.2 m.1 m.2.1
  have m0 := m.2.2
  rw [b4] at e2 m0
  have e3 := r_thrown (X := X) (d := d + 39) (G := G) (A := C) (j := jc) (cc := c1) g1
  rw [m0] at e3
  have j9 : jc 279 = jb 279 := ev_279 e2 (clT_c cl_263 (clT_c ((cl9_K 279).1 _) (clT_c ((cl9_K 279).1 _) clT_nil))) g3 g4
  have LC : nI (spDepth (A 264) (scN X (i + 1)) (scN X (i + 2))).1 = 0 → lg_cmp (jc 279 0) (Int32.toInt64 (nI (spDepth (A 264) (scN X (i + 1)) (scN X (i + 2))).2)) = 0 := fun z => by
    have z0 : (spDepth (A 264) (scN X (i + 1)) (scN X (i + 2))).1 = 0 := by rw [← nI_0, nn_eq] at z; omega
    rw [j9, hv z0]; exact lcs _
  have KK := K C jc c1 (some (.int (nI (spDepth (A 264) (scN X (i + 1)) (scN X (i + 2))).1))) (some (.int (nI (spDepth (A 264) (scN X (i + 1)) (scN X (i + 2))).2))) hI hcl
  exact (pv_aload_n rfl rfl (pv_xload_n rfl rfl (pv_iload rfl rfl (pn_iconst (u := 1) rfl rfl (pn_iadd rfl (pn_scN rfl (by omega) hX (pv_xload_n rfl rfl (pv_iload rfl rfl (pn_iconst (u := 2) rfl rfl (pn_iadd rfl (pn_scN rfl (by omega) hX (pv_aload_n rfl rfl (pv_stat rfl rfl rfl rfl rfl rfl rfl rfl e1 (pv_istore rfl rfl (pv_aload_n rfl rfl (pv_xload_n rfl rfl (pv_iload rfl rfl (pn_iconst (u := 1) rfl rfl (pn_iadd rfl (pn_scN rfl (by omega) hX (pv_xload_n rfl rfl (pv_iload rfl rfl (pn_iconst (u := 2) rfl rfl (pn_iadd rfl (pn_scN rfl (by omega) hX (pv_virt rfl rfl rfl rfl rfl (oX12_k g1) rfl rfl rfl e2 (pv_istore rfl rfl (pv_aload_n rfl rfl (pv_virt rfl rfl rfl rfl rfl (oX12_k g1) rfl rfl rfl e3 (pv_iload rfl rfl (pv_ic_eq rfl (fun _ => (pv_iload rfl rfl (pv_if_ne rfl (fun _ => (pv_goto rfl KK)) (fun z => have lc := LC z; (pv_aload_n rfl rfl (pn_iconst (u := 0) rfl rfl (pn_lald rfl g2 (by decide) (by decide) (pv_iload rfl rfl (pv_i2l rfl (pv_lcmp rfl (pv_if_eq rfl (fun _ => (pv_goto rfl KK)) (fun e => absurd lc e)))))))))))) (fun e => absurd rfl e))))))))))))))))))))))))))))))))
theorem lw_c27 {X : gv_X} {d : Nat} {G : gv_Sh} {A : Nat → Nat → Nat} {j : Nat → Nat → Int64} {cc : gv_Rs} {P : gv_O × gv_S → Prop} {i : Nat} {l5 l6 : Option Value} (hg : ivG G) (hX : X.2 < 2147483648) (hi : i + 6 ≤ X.2) (I : ivI A j) (K : ivK X d G P i cc) : EvP X (d + 40) gvm_385 1712 [some (.retAddr 0), some (.ref 0), some (.ref 263), some (.ref 279), some (.int (nI i)), l5, l6] [] (G, (mI A, j), cc) P := by
  obtain ⟨g0, g1, g2, g3, g4⟩ := hg
  obtain ⟨B, e1, k⟩ := c_least (X := X) (d := d + 33) (G := G) (A := A) (j := j) (cc := cc)  (R := (A 264)) g0 I.1
  have bh : ∀ q, 263 ≤ q → B q = A q := (frK_hi k.2)
  have b4 : B 264 = A 264 := bh 264 (by decide)
  obtain ⟨o1, o2, o3, o4, o5, o6, o7⟩ := lw_o I bh rfl
  obtain ⟨C, jc, e2, m⟩ := r_least (X := X) (d := d + 30) (G := G) (A := B) (j := j) (cc := cc)  g1 (by rw [b4]; exact o1) o3
  have hI : ivI C jc := ivI_q I k.1 k.2 m.1 m.2.1
  rw [b4] at e2
  have KK := K C jc cc l5 l6 hI (ccl_rf cc)
  exact (pv_aload_n rfl rfl (pv_virt rfl rfl rfl rfl rfl (oX11_k g0) rfl rfl rfl e1 (pv_aload_n rfl rfl (pv_virt rfl rfl rfl rfl rfl (oX12_k g1) rfl rfl rfl e2 (pv_ic_eq rfl (fun _ => KK) (fun e => absurd rfl e))))))
theorem lw_c28 {X : gv_X} {d : Nat} {G : gv_Sh} {A : Nat → Nat → Nat} {j : Nat → Nat → Int64} {cc : gv_Rs} {P : gv_O × gv_S → Prop} {i : Nat} {l5 l6 : Option Value} (hg : ivG G) (hX : X.2 < 2147483648) (hi : i + 6 ≤ X.2) (I : ivI A j) (K : ivK X d G P i cc) : EvP X (d + 40) gvm_385 1725 [some (.retAddr 0), some (.ref 0), some (.ref 263), some (.ref 279), some (.int (nI i)), l5, l6] [] (G, (mI A, j), cc) P := by
  obtain ⟨g0, g1, g2, g3, g4⟩ := hg
  obtain ⟨B, e1, k⟩ := c_proof (X := X) (d := d + 32) (G := G) (A := A) (j := j) (cc := cc)  (R := (A 264)) g0 I.1
  have bh : ∀ q, 263 ≤ q → B q = A q := (frK_hi k.2)
  have b4 : B 264 = A 264 := bh 264 (by decide)
  obtain ⟨o1, o2, o3, o4, o5, o6, o7⟩ := lw_o I bh rfl
  obtain ⟨C, jc, e2, m⟩ := r_proof (X := X) (d := d + 30) (G := G) (A := B) (j := j) (cc := cc)  g1 (by rw [b4]; exact o1) (by rw [b4]; exact o2) o3
  have hI : ivI C jc := ivI_q I k.1 k.2 m.1 m.2.1
  rw [b4] at e2
  have KK := K C jc cc l5 l6 hI (ccl_rf cc)
  exact (pv_aload_n rfl rfl (pv_virt rfl rfl rfl rfl rfl (oX11_k g0) rfl rfl rfl e1 (pv_aload_n rfl rfl (pv_virt rfl rfl rfl rfl rfl (oX12_k g1) rfl rfl rfl e2 (pv_ic_eq rfl (fun _ => KK) (fun e => absurd rfl e))))))
theorem lw_c29 {X : gv_X} {d : Nat} {G : gv_Sh} {A : Nat → Nat → Nat} {j : Nat → Nat → Int64} {cc : gv_Rs} {P : gv_O × gv_S → Prop} {i : Nat} {l5 l6 : Option Value} (hg : ivG G) (hX : X.2 < 2147483648) (hi : i + 6 ≤ X.2) (I : ivI A j) (K : ivK X d G P i cc) : EvP X (d + 40) gvm_385 1738 [some (.retAddr 0), some (.ref 0), some (.ref 263), some (.ref 279), some (.int (nI i)), l5, l6] [] (G, (mI A, j), cc) P := by
  obtain ⟨g0, g1, g2, g3, g4⟩ := hg
  obtain ⟨B, jb, c1, k, hv, hj, hcl, le, e1⟩ := wr_372 (X := X) (d := d + 34) (G := G) (A := A) (j := j) (cc := cc) (a := (scN X (i + 1))) (b := (scN X (i + 2))) (R := (A 264)) g0 g2 I.1 (scN_lt _ _) (scN_lt _ _)
  have bh : ∀ q, 263 ≤ q → B q = A q := (frK_hi k.2)
  have b4 : B 264 = A 264 := bh 264 (by decide)
  obtain ⟨o1, o2, o3, o4, o5, o6, o7⟩ := lw_o I bh (hj 274 (by decide))
  obtain ⟨C, e2, m⟩ := r_clash (X := X) (d := d + 34) (G := G) (A := B) (j := jb) (cc := c1) (a := (scN X (i + 1))) (b := (scN X (i + 2))) g1 (by rw [b4]; exact o1) o3 (scN_lt _ _) (scN_lt _ _)
  have hI : ivI C jb := ivI_q I k.1 k.2 m.1 m.2.1
  have m0 := m.2.2
  rw [b4] at e2 m0
  have e3 := r_thrown (X := X) (d := d + 39) (G := G) (A := C) (j := jb) (cc := c1) g1
  rw [m0] at e3
  have j9 : jb 279 = jb 279 := rfl
  have KK := K C jb c1 (some (.int (nI (spClash (A 264) (scN X (i + 1)) (scN X (i + 2))).1))) (some (.int (zo (spClash (A 264) (scN X (i + 1)) (scN X (i + 2))).2))) hI hcl
  cases hb : (spClash (A 264) (scN X (i + 1)) (scN X (i + 2))).2 with
  | true =>
    rw [hb] at e2 hv KK
    have LC : nI (spClash (A 264) (scN X (i + 1)) (scN X (i + 2))).1 = 0 → lg_cmp (jb 279 0) (Int64.ofNat 1) = 0 := fun z => by
      rw [show (spClash (A 264) (scN X (i + 1)) (scN X (i + 2))).1 = 0 by rw [← nI_0, nn_eq] at z; omega] at hv
      rw [j9, hv rfl]; exact lcs _
    exact (pv_aload_n rfl rfl (pv_xload_n rfl rfl (pv_iload rfl rfl (pn_iconst (u := 1) rfl rfl (pn_iadd rfl (pn_scN rfl (by omega) hX (pv_xload_n rfl rfl (pv_iload rfl rfl (pn_iconst (u := 2) rfl rfl (pn_iadd rfl (pn_scN rfl (by omega) hX (pv_aload_n rfl rfl (pv_stat rfl rfl rfl rfl rfl rfl rfl rfl e1 (pv_istore rfl rfl (pv_aload_n rfl rfl (pv_xload_n rfl rfl (pv_iload rfl rfl (pn_iconst (u := 1) rfl rfl (pn_iadd rfl (pn_scN rfl (by omega) hX (pv_xload_n rfl rfl (pv_iload rfl rfl (pn_iconst (u := 2) rfl rfl (pn_iadd rfl (pn_scN rfl (by omega) hX (pv_virt rfl rfl rfl rfl rfl (oX12_k g1) rfl rfl rfl e2 (pv_istore rfl rfl (pv_aload_n rfl rfl (pv_virt rfl rfl rfl rfl rfl (oX12_k g1) rfl rfl rfl e3 (pv_iload rfl rfl (pv_ic_eq rfl (fun _ => (pv_iload rfl rfl (pv_if_ne rfl (fun _ => (pv_goto rfl KK)) (fun z => have lc := LC z; (pv_aload_n rfl rfl (pn_iconst (u := 0) rfl rfl (pn_lald rfl g2 (by decide) (by decide) (pv_iload rfl rfl (pv_if_eq rfl (fun e => absurd e (by decide)) (fun _ => (pv_lconst rfl (pv_goto rfl (pv_lcmp rfl (pv_if_eq rfl (fun _ => (pv_goto rfl KK)) (fun e => absurd lc e))))))))))))))) (fun e => absurd rfl e))))))))))))))))))))))))))))))))
  | false =>
    rw [hb] at e2 hv KK
    have LC : nI (spClash (A 264) (scN X (i + 1)) (scN X (i + 2))).1 = 0 → lg_cmp (jb 279 0) (Int64.ofNat 0) = 0 := fun z => by
      rw [show (spClash (A 264) (scN X (i + 1)) (scN X (i + 2))).1 = 0 by rw [← nI_0, nn_eq] at z; omega] at hv
      rw [j9, hv rfl]; exact lcs _
    exact (pv_aload_n rfl rfl (pv_xload_n rfl rfl (pv_iload rfl rfl (pn_iconst (u := 1) rfl rfl (pn_iadd rfl (pn_scN rfl (by omega) hX (pv_xload_n rfl rfl (pv_iload rfl rfl (pn_iconst (u := 2) rfl rfl (pn_iadd rfl (pn_scN rfl (by omega) hX (pv_aload_n rfl rfl (pv_stat rfl rfl rfl rfl rfl rfl rfl rfl e1 (pv_istore rfl rfl (pv_aload_n rfl rfl (pv_xload_n rfl rfl (pv_iload rfl rfl (pn_iconst (u := 1) rfl rfl (pn_iadd rfl (pn_scN rfl (by omega) hX (pv_xload_n rfl rfl (pv_iload rfl rfl (pn_iconst (u := 2) rfl rfl (pn_iadd rfl (pn_scN rfl (by omega) hX (pv_virt rfl rfl rfl rfl rfl (oX12_k g1) rfl rfl rfl e2 (pv_istore rfl rfl (pv_aload_n rfl rfl (pv_virt rfl rfl rfl rfl rfl (oX12_k g1) rfl rfl rfl e3 (pv_iload rfl rfl (pv_ic_eq rfl (fun _ => (pv_iload rfl rfl (pv_if_ne rfl (fun _ => (pv_goto rfl KK)) (fun z => have lc := LC z; (pv_aload_n rfl rfl (pn_iconst (u := 0) rfl rfl (pn_lald rfl g2 (by decide) (by decide) (pv_iload rfl rfl (pv_if_eq rfl (fun _ => (pv_lconst rfl (pv_lcmp rfl (pv_if_eq rfl (fun _ => (pv_goto rfl KK)) (fun e => absurd lc e))))) (fun e => absurd rfl e)))))))))) (fun e => absurd rfl e))))))))))))))))))))))))))))))))
