/-! cases of the law: questions -/
theorem lw_c30 {X : gv_X} {d : Nat} {G : gv_Sh} {A : Nat → Nat → Nat} {j : Nat → Nat → Int64} {cc : gv_Rs} {P : gv_O × gv_S → Prop} {i : Nat} {l5 l6 : Option Value} (hg : ivG G) (hX : X.2 < 2147483648) (hi : i + 6 ≤ X.2) (I : ivI A j) (K : ivK X d G P i cc) : EvP X (d + 40) gvm_385 1813 [some (.retAddr 0), some (.ref 0), some (.ref 263), some (.ref 279), some (.int (nI i)), l5, l6] [] (G, (mI A, j), cc) P := by
  obtain ⟨g0, g1, g2, g3, g4⟩ := hg
  have e1 := c_beside (X := X) (d := d + 34) (G := G) (A := A) (j := j) (cc := cc)  (R := (A 264)) g0 I.1
  have bh : ∀ q, 263 ≤ q → A q = A q := fun _ _ => rfl
  have b4 : A 264 = A 264 := bh 264 (by decide)
  obtain ⟨o1, o2, o3, o4, o5, o6, o7⟩ := lw_o I bh rfl
  have e2 := r_beside (X := X) (d := d + 33) (G := G) (A := A) (j := j) (cc := cc)  g1 (by rw [b4]; exact o1)
  have hI : ivI (gu A 263 0 0) j := ivI_0 (A := A) (j := j) I
  have KK := K (gu A 263 0 0) j cc l5 l6 hI (ccl_rf cc)
  exact (pv_aload_n rfl rfl (pv_virt rfl rfl rfl rfl rfl (oX11_k g0) rfl rfl rfl e1 (pv_aload_n rfl rfl (pv_virt rfl rfl rfl rfl rfl (oX12_k g1) rfl rfl rfl e2 (pv_ic_eq rfl (fun _ => KK) (fun e => absurd rfl e))))))
theorem lw_c31 {X : gv_X} {d : Nat} {G : gv_Sh} {A : Nat → Nat → Nat} {j : Nat → Nat → Int64} {cc : gv_Rs} {P : gv_O × gv_S → Prop} {i : Nat} {l5 l6 : Option Value} (hg : ivG G) (hX : X.2 < 2147483648) (hi : i + 6 ≤ X.2) (I : ivI A j) (K : ivK X d G P i cc) : EvP X (d + 40) gvm_385 1826 [some (.retAddr 0), some (.ref 0), some (.ref 263), some (.ref 279), some (.int (nI i)), l5, l6] [] (G, (mI A, j), cc) P := by
  obtain ⟨g0, g1, g2, g3, g4⟩ := hg
  obtain ⟨B, e1, k⟩ := c_open (X := X) (d := d + 33) (G := G) (A := A) (j := j) (cc := cc)  (R := (A 264)) g0 I.1
  have bh : ∀ q, 263 ≤ q → B q = A q := (frK_hi k.2)
  have b4 : B 264 = A 264 := bh 264 (by decide)
  obtain ⟨o1, o2, o3, o4, o5, o6, o7⟩ := lw_o I bh rfl
  obtain ⟨C, jc, e2, m⟩ := r_open (X := X) (d := d + 30) (G := G) (A := B) (j := j) (cc := cc)  g1 (by rw [b4]; exact o1) o3
  have hI : ivI C jc := ivI_q I k.1 k.2 m.1 m.2.1
  rw [b4] at e2
  have KK := K C jc cc l5 l6 hI (ccl_rf cc)
  exact (pv_aload_n rfl rfl (pv_virt rfl rfl rfl rfl rfl (oX11_k g0) rfl rfl rfl e1 (pv_aload_n rfl rfl (pv_virt rfl rfl rfl rfl rfl (oX12_k g1) rfl rfl rfl e2 (pv_ic_eq rfl (fun _ => KK) (fun e => absurd rfl e))))))
theorem lw_c35 {X : gv_X} {d : Nat} {G : gv_Sh} {A : Nat → Nat → Nat} {j : Nat → Nat → Int64} {cc : gv_Rs} {P : gv_O × gv_S → Prop} {i : Nat} {l5 l6 : Option Value} (hg : ivG G) (hX : X.2 < 2147483648) (hi : i + 6 ≤ X.2) (I : ivI A j) (K : ivK X d G P i cc) : EvP X (d + 40) gvm_385 1971 [some (.retAddr 0), some (.ref 0), some (.ref 263), some (.ref 279), some (.int (nI i)), l5, l6] [] (G, (mI A, j), cc) P := by
  obtain ⟨g0, g1, g2, g3, g4⟩ := hg
  obtain ⟨B, e1, k⟩ := c_lead (X := X) (d := d + 37) (G := G) (A := A) (j := j) (cc := cc)  (R := (A 264)) g0 I.1
  have bh : ∀ q, 263 ≤ q → B q = A q := (frK_hi k.2)
  have b4 : B 264 = A 264 := bh 264 (by decide)
  obtain ⟨o1, o2, o3, o4, o5, o6, o7⟩ := lw_o I bh rfl
  obtain ⟨C, e2, m⟩ := r_lead (X := X) (d := d + 36) (G := G) (A := B) (j := j) (cc := cc)  g1 (by rw [b4]; exact o1) o3
  have hI : ivI C j := ivI_q I k.1 k.2 m.1 m.2.1
  rw [b4] at e2
  have KK := K C j cc l5 l6 hI (ccl_rf cc)
  exact (pv_aload_n rfl rfl (pv_virt rfl rfl rfl rfl rfl (oX11_k g0) rfl rfl rfl e1 (pv_aload_n rfl rfl (pv_virt rfl rfl rfl rfl rfl (oX12_k g1) rfl rfl rfl e2 (pv_ic_eq rfl (fun _ => KK) (fun e => absurd rfl e))))))
theorem lw_c36 {X : gv_X} {d : Nat} {G : gv_Sh} {A : Nat → Nat → Nat} {j : Nat → Nat → Int64} {cc : gv_Rs} {P : gv_O × gv_S → Prop} {i : Nat} {l5 l6 : Option Value} (hg : ivG G) (hX : X.2 < 2147483648) (hi : i + 6 ≤ X.2) (I : ivI A j) (K : ivK X d G P i cc) : EvP X (d + 40) gvm_385 1984 [some (.retAddr 0), some (.ref 0), some (.ref 263), some (.ref 279), some (.int (nI i)), l5, l6] [] (G, (mI A, j), cc) P := by
  obtain ⟨g0, g1, g2, g3, g4⟩ := hg
  obtain ⟨B, e1, k⟩ := c_side (X := X) (d := d + 37) (G := G) (A := A) (j := j) (cc := cc)  (R := (A 264)) g0 I.1
  have bh : ∀ q, 263 ≤ q → B q = A q := (frK_hi k.2)
  have b4 : B 264 = A 264 := bh 264 (by decide)
  obtain ⟨o1, o2, o3, o4, o5, o6, o7⟩ := lw_o I bh rfl
  obtain ⟨C, e2, m⟩ := r_side (X := X) (d := d + 36) (G := G) (A := B) (j := j) (cc := cc)  g1 (by rw [b4]; exact o1) o3
  have hI : ivI C j := ivI_q I k.1 k.2 m.1 m.2.1
  rw [b4] at e2
  have KK := K C j cc l5 l6 hI (ccl_rf cc)
  exact (pv_aload_n rfl rfl (pv_virt rfl rfl rfl rfl rfl (oX11_k g0) rfl rfl rfl e1 (pv_aload_n rfl rfl (pv_virt rfl rfl rfl rfl rfl (oX12_k g1) rfl rfl rfl e2 (pv_ic_eq rfl (fun _ => KK) (fun e => absurd rfl e))))))
theorem lw_c37 {X : gv_X} {d : Nat} {G : gv_Sh} {A : Nat → Nat → Nat} {j : Nat → Nat → Int64} {cc : gv_Rs} {P : gv_O × gv_S → Prop} {i : Nat} {l5 l6 : Option Value} (hg : ivG G) (hX : X.2 < 2147483648) (hi : i + 6 ≤ X.2) (I : ivI A j) (K : ivK X d G P i cc) : EvP X (d + 40) gvm_385 1997 [some (.retAddr 0), some (.ref 0), some (.ref 263), some (.ref 279), some (.int (nI i)), l5, l6] [] (G, (mI A, j), cc) P := by
  obtain ⟨g0, g1, g2, g3, g4⟩ := hg
  obtain ⟨B, jb, c1, k, hv, hj, hcl, le, e1⟩ := wr_376 (X := X) (d := d + 31) (G := G) (A := A) (j := j) (cc := cc) (p := (scN X (i + 1))) (R := (A 264)) g0 g2 I.1 (scN_lt _ _)
  have bh : ∀ q, 263 ≤ q → B q = A q := (frK_hi k.2)
  have b4 : B 264 = A 264 := bh 264 (by decide)
  obtain ⟨o1, o2, o3, o4, o5, o6, o7⟩ := lw_o I bh (hj 274 (by decide))
  obtain ⟨C, e2, m⟩ := r_pairs (X := X) (d := d + 32) (G := G) (A := B) (j := jb) (cc := c1) (op := (scN X (i + 1))) g1 (by rw [b4]; exact o1) o3 (scN_lt _ _)
  have hI : ivI C jb := ivI_q I k.1 k.2 m.1 m.2.1
  have m0 := m.2.2
  rw [b4] at e2 m0
  have e3 := r_thrown (X := X) (d := d + 39) (G := G) (A := C) (j := jb) (cc := c1) g1
  rw [m0] at e3
  have j9 : jb 279 = jb 279 := rfl
  have LC : nI (spPairs (A 264) (scN X (i + 1))).1 = 0 → lg_cmp (jb 279 0) (Int32.toInt64 (nI (spPairs (A 264) (scN X (i + 1))).2)) = 0 := fun z => by
    have z0 : (spPairs (A 264) (scN X (i + 1))).1 = 0 := by rw [← nI_0, nn_eq] at z; omega
    rw [j9, hv z0]; exact lcs _
  have KK := K C jb c1 (some (.int (nI (spPairs (A 264) (scN X (i + 1))).1))) (some (.int (nI (spPairs (A 264) (scN X (i + 1))).2))) hI hcl
  exact (pv_aload_n rfl rfl (pv_xload_n rfl rfl (pv_iload rfl rfl (pn_iconst (u := 1) rfl rfl (pn_iadd rfl (pn_scN rfl (by omega) hX (pv_aload_n rfl rfl (pv_stat rfl rfl rfl rfl rfl rfl rfl rfl e1 (pv_istore rfl rfl (pv_aload_n rfl rfl (pv_xload_n rfl rfl (pv_iload rfl rfl (pn_iconst (u := 1) rfl rfl (pn_iadd rfl (pn_scN rfl (by omega) hX (pv_virt rfl rfl rfl rfl rfl (oX12_k g1) rfl rfl rfl e2 (pv_istore rfl rfl (pv_aload_n rfl rfl (pv_virt rfl rfl rfl rfl rfl (oX12_k g1) rfl rfl rfl e3 (pv_iload rfl rfl (pv_ic_eq rfl (fun _ => (pv_iload rfl rfl (pv_if_ne rfl (fun _ => (pv_goto rfl KK)) (fun z => have lc := LC z; (pv_aload_n rfl rfl (pn_iconst (u := 0) rfl rfl (pn_lald rfl g2 (by decide) (by decide) (pv_iload rfl rfl (pv_i2l rfl (pv_lcmp rfl (pv_if_eq rfl (fun _ => (pv_goto rfl KK)) (fun e => absurd lc e)))))))))))) (fun e => absurd rfl e))))))))))))))))))))))
theorem lw_c38 {X : gv_X} {d : Nat} {G : gv_Sh} {A : Nat → Nat → Nat} {j : Nat → Nat → Int64} {cc : gv_Rs} {P : gv_O × gv_S → Prop} {i : Nat} {l5 l6 : Option Value} (hg : ivG G) (hX : X.2 < 2147483648) (hi : i + 6 ≤ X.2) (I : ivI A j) (K : ivK X d G P i cc) : EvP X (d + 40) gvm_385 2053 [some (.retAddr 0), some (.ref 0), some (.ref 263), some (.ref 279), some (.int (nI i)), l5, l6] [] (G, (mI A, j), cc) P := by
  obtain ⟨g0, g1, g2, g3, g4⟩ := hg
  obtain ⟨B, jb, c1, k, hv, hj, hcl, le, e1⟩ := wr_377 (X := X) (d := d + 32) (G := G) (A := A) (j := j) (cc := cc) (p := (scN X (i + 1))) (R := (A 264)) g0 g2 I.1 (scN_lt _ _)
  have bh : ∀ q, 263 ≤ q → B q = A q := (frK_hi k.2)
  have b4 : B 264 = A 264 := bh 264 (by decide)
  obtain ⟨o1, o2, o3, o4, o5, o6, o7⟩ := lw_o I bh (hj 274 (by decide))
  obtain ⟨C, jc, e2, m⟩ := r_rests (X := X) (d := d + 31) (G := G) (A := B) (j := jb) (cc := c1) (op := (scN X (i + 1))) g1 (by rw [b4]; exact o1) (by rw [b4]; exact o2) o3 (scN_lt _ _)
  have hI : ivI C jc := ivI_q I k.1 k.2 m.1 m.2.1
  have m0 := m.2.2
  rw [b4] at e2 m0
  have e3 := r_thrown (X := X) (d := d + 39) (G := G) (A := C) (j := jc) (cc := c1) g1
  rw [m0] at e3
  have j9 : jc 279 = jb 279 := ev_279 e2 (clT_c cl_263 (clT_c ((cl9_K 279).1 _) clT_nil)) g3 g4
  have LC : nI (spRests (A 264) (scN X (i + 1))).1 = 0 → lg_cmp (jc 279 0) (Int32.toInt64 (nI (spRests (A 264) (scN X (i + 1))).2)) = 0 := fun z => by
    have z0 : (spRests (A 264) (scN X (i + 1))).1 = 0 := by rw [← nI_0, nn_eq] at z; omega
    rw [j9, hv z0]; exact lcs _
  have KK := K C jc c1 (some (.int (nI (spRests (A 264) (scN X (i + 1))).1))) (some (.int (nI (spRests (A 264) (scN X (i + 1))).2))) hI hcl
  exact (pv_aload_n rfl rfl (pv_xload_n rfl rfl (pv_iload rfl rfl (pn_iconst (u := 1) rfl rfl (pn_iadd rfl (pn_scN rfl (by omega) hX (pv_aload_n rfl rfl (pv_stat rfl rfl rfl rfl rfl rfl rfl rfl e1 (pv_istore rfl rfl (pv_aload_n rfl rfl (pv_xload_n rfl rfl (pv_iload rfl rfl (pn_iconst (u := 1) rfl rfl (pn_iadd rfl (pn_scN rfl (by omega) hX (pv_virt rfl rfl rfl rfl rfl (oX12_k g1) rfl rfl rfl e2 (pv_istore rfl rfl (pv_aload_n rfl rfl (pv_virt rfl rfl rfl rfl rfl (oX12_k g1) rfl rfl rfl e3 (pv_iload rfl rfl (pv_ic_eq rfl (fun _ => (pv_iload rfl rfl (pv_if_ne rfl (fun _ => (pv_goto rfl KK)) (fun z => have lc := LC z; (pv_aload_n rfl rfl (pn_iconst (u := 0) rfl rfl (pn_lald rfl g2 (by decide) (by decide) (pv_iload rfl rfl (pv_i2l rfl (pv_lcmp rfl (pv_if_eq rfl (fun _ => (pv_goto rfl KK)) (fun e => absurd lc e)))))))))))) (fun e => absurd rfl e))))))))))))))))))))))
theorem lw_c39 {X : gv_X} {d : Nat} {G : gv_Sh} {A : Nat → Nat → Nat} {j : Nat → Nat → Int64} {cc : gv_Rs} {P : gv_O × gv_S → Prop} {i : Nat} {l5 l6 : Option Value} (hg : ivG G) (hX : X.2 < 2147483648) (hi : i + 6 ≤ X.2) (I : ivI A j) (K : ivK X d G P i cc) : EvP X (d + 40) gvm_385 2109 [some (.retAddr 0), some (.ref 0), some (.ref 263), some (.ref 279), some (.int (nI i)), l5, l6] [] (G, (mI A, j), cc) P := by
  obtain ⟨g0, g1, g2, g3, g4⟩ := hg
  obtain ⟨B, jb, c1, k, hv, hj, hcl, le, e1⟩ := wr_378 (X := X) (d := d + 37) (G := G) (A := A) (j := j) (cc := cc) (n := (scN X (i + 1))) (k := (scN X (i + 2))) (R := (A 264)) g0 g2 I.1 (scN_lt _ _) (scN_lt _ _)
  have bh : ∀ q, 263 ≤ q → B q = A q := (frK_hi k.2)
  have b4 : B 264 = A 264 := bh 264 (by decide)
  obtain ⟨o1, o2, o3, o4, o5, o6, o7⟩ := lw_o I bh (hj 274 (by decide))
  obtain ⟨C, jc, e2, m⟩ := r_odds (X := X) (d := d + 38) (G := G) (A := B) (j := jb) (cc := c1) (n := (scN X (i + 1))) (k := (scN X (i + 2))) g1 (by rw [b4]; exact o1) o3 (scN_lt _ _) (scN_lt _ _)
  have hI : ivI C jc := ivI_q I k.1 k.2 m.1 m.2.1
  have m0 := m.2.2
  rw [b4] at e2 m0
  have e3 := r_thrown (X := X) (d := d + 39) (G := G) (A := C) (j := jc) (cc := c1) g1
  rw [m0] at e3
  have j9 : jc 279 = jb 279 := ev_279 e2 (clT_c cl_263 (clT_c ((cl9_K 279).1 _) (clT_c ((cl9_K 279).1 _) clT_nil))) g3 g4
  have LC : nI (spOdds (A 264) (scN X (i + 1)) (scN X (i + 2))).1 = 0 → lg_cmp (jc 279 0) (Int32.toInt64 (nI (spOdds (A 264) (scN X (i + 1)) (scN X (i + 2))).2)) = 0 := fun z => by
    have z0 : (spOdds (A 264) (scN X (i + 1)) (scN X (i + 2))).1 = 0 := by rw [← nI_0, nn_eq] at z; omega
    rw [j9, hv z0]; exact lcs _
  have KK := K C jc c1 (some (.int (nI (spOdds (A 264) (scN X (i + 1)) (scN X (i + 2))).1))) (some (.int (nI (spOdds (A 264) (scN X (i + 1)) (scN X (i + 2))).2))) hI hcl
  exact (pv_aload_n rfl rfl (pv_xload_n rfl rfl (pv_iload rfl rfl (pn_iconst (u := 1) rfl rfl (pn_iadd rfl (pn_scN rfl (by omega) hX (pv_xload_n rfl rfl (pv_iload rfl rfl (pn_iconst (u := 2) rfl rfl (pn_iadd rfl (pn_scN rfl (by omega) hX (pv_aload_n rfl rfl (pv_stat rfl rfl rfl rfl rfl rfl rfl rfl e1 (pv_istore rfl rfl (pv_aload_n rfl rfl (pv_xload_n rfl rfl (pv_iload rfl rfl (pn_iconst (u := 1) rfl rfl (pn_iadd rfl (pn_scN rfl (by omega) hX (pv_xload_n rfl rfl (pv_iload rfl rfl (pn_iconst (u := 2) rfl rfl (pn_iadd rfl (pn_scN rfl (by omega) hX (pv_virt rfl rfl rfl rfl rfl (oX12_k g1) rfl rfl rfl e2 (pv_istore rfl rfl (pv_aload_n rfl rfl (pv_virt rfl rfl rfl rfl rfl (oX12_k g1) rfl rfl rfl e3 (pv_iload rfl rfl (pv_ic_eq rfl (fun _ => (pv_iload rfl rfl (pv_if_ne rfl (fun _ => (pv_goto rfl KK)) (fun z => have lc := LC z; (pv_aload_n rfl rfl (pn_iconst (u := 0) rfl rfl (pn_lald rfl g2 (by decide) (by decide) (pv_iload rfl rfl (pv_i2l rfl (pv_lcmp rfl (pv_if_eq rfl (fun _ => (pv_goto rfl KK)) (fun e => absurd lc e)))))))))))) (fun e => absurd rfl e))))))))))))))))))))))))))))))))
theorem lw_c40 {X : gv_X} {d : Nat} {G : gv_Sh} {A : Nat → Nat → Nat} {j : Nat → Nat → Int64} {cc : gv_Rs} {P : gv_O × gv_S → Prop} {i : Nat} {l5 l6 : Option Value} (hg : ivG G) (hX : X.2 < 2147483648) (hi : i + 6 ≤ X.2) (I : ivI A j) (K : ivK X d G P i cc) : EvP X (d + 40) gvm_385 2177 [some (.retAddr 0), some (.ref 0), some (.ref 263), some (.ref 279), some (.int (nI i)), l5, l6] [] (G, (mI A, j), cc) P := by
  obtain ⟨g0, g1, g2, g3, g4⟩ := hg
  obtain ⟨B, jb, c1, k, hv, hj, hcl, le, e1⟩ := wr_379 (X := X) (d := d + 32) (G := G) (A := A) (j := j) (cc := cc) (h := (scN X (i + 1))) (R := (A 264)) g0 g2 I.1 (scN_lt _ _)
  have bh : ∀ q, 263 ≤ q → B q = A q := (frK_hi k.2)
  have b4 : B 264 = A 264 := bh 264 (by decide)
  obtain ⟨o1, o2, o3, o4, o5, o6, o7⟩ := lw_o I bh (hj 274 (by decide))
  obtain ⟨C, jc, e2, m⟩ := r_most (X := X) (d := d + 31) (G := G) (A := B) (j := jb) (cc := c1) (w := (scN X (i + 1))) g1 (by rw [b4]; exact o1) (by rw [b4]; exact o2) o3 (scN_lt _ _)
  have hI : ivI C jc := ivI_q I k.1 k.2 m.1 m.2.1
  have m0 := m.2.2
  rw [b4] at e2 m0
  have e3 := r_thrown (X := X) (d := d + 39) (G := G) (A := C) (j := jc) (cc := c1) g1
  rw [m0] at e3
  have j9 : jc 279 = jb 279 := ev_279 e2 (clT_c cl_263 (clT_c ((cl9_K 279).1 _) clT_nil)) g3 g4
  have LC : nI (spMost (A 264) (scN X (i + 1))).1 = 0 → lg_cmp (jc 279 0) (Int32.toInt64 (nI (spMost (A 264) (scN X (i + 1))).2)) = 0 := fun z => by
    have z0 : (spMost (A 264) (scN X (i + 1))).1 = 0 := by rw [← nI_0, nn_eq] at z; omega
    rw [j9, hv z0]; exact lcs _
  have KK := K C jc c1 (some (.int (nI (spMost (A 264) (scN X (i + 1))).1))) (some (.int (nI (spMost (A 264) (scN X (i + 1))).2))) hI hcl
  exact (pv_aload_n rfl rfl (pv_xload_n rfl rfl (pv_iload rfl rfl (pn_iconst (u := 1) rfl rfl (pn_iadd rfl (pn_scN rfl (by omega) hX (pv_aload_n rfl rfl (pv_stat rfl rfl rfl rfl rfl rfl rfl rfl e1 (pv_istore rfl rfl (pv_aload_n rfl rfl (pv_xload_n rfl rfl (pv_iload rfl rfl (pn_iconst (u := 1) rfl rfl (pn_iadd rfl (pn_scN rfl (by omega) hX (pv_virt rfl rfl rfl rfl rfl (oX12_k g1) rfl rfl rfl e2 (pv_istore rfl rfl (pv_aload_n rfl rfl (pv_virt rfl rfl rfl rfl rfl (oX12_k g1) rfl rfl rfl e3 (pv_iload rfl rfl (pv_ic_eq rfl (fun _ => (pv_iload rfl rfl (pv_if_ne rfl (fun _ => (pv_goto rfl KK)) (fun z => have lc := LC z; (pv_aload_n rfl rfl (pn_iconst (u := 0) rfl rfl (pn_lald rfl g2 (by decide) (by decide) (pv_iload rfl rfl (pv_i2l rfl (pv_lcmp rfl (pv_if_eq rfl (fun _ => (pv_goto rfl KK)) (fun e => absurd lc e)))))))))))) (fun e => absurd rfl e))))))))))))))))))))))
