/-! the law: texts, the tape, what is taken back -/
theorem lw_c0 {X : gv_X} {d : Nat} {G : gv_Sh} {A : Nat → Nat → Nat} {j : Nat → Nat → Int64} {cc : gv_Rs} {P : gv_O × gv_S → Prop} {i : Nat} {l5 l6 : Option Value} (hg : ivG G) (hX : X.2 < 2147483648) (hi : i + 6 ≤ X.2) (I : ivI A j) (K : ivK X d G P i cc) : EvP X (d + 40) gvm_385 264 [some (.retAddr 0), some (.ref 0), some (.ref 263), some (.ref 279), some (.int (nI i)), l5, l6] [] (G, (mI A, j), cc) P := by
  obtain ⟨g0, g1, g2, g3, g4⟩ := hg
  have t2 := lw_2 I.2.2.2.1 I.2.2.1
  obtain ⟨B, e1, k⟩ := c_feed (X := X) (d := d + 38) (G := G) (A := A) (j := j) (cc := cc) (a := (scN X (i + 1))) (b := (scN X (i + 2))) (c := (scN X (i + 3))) (d5 := (scN X (i + 4))) (e := (scN X (i + 5)))  g0 t2.1 (scN_lt _ _) (scN_lt _ _) (scN_lt _ _) (scN_lt _ _) (scN_lt _ _)
  have bh : ∀ q, 263 ≤ q → B q = A q := (fun q hq => k.2.2.2.2 q (by omega) (by omega))
  have b4 : B 264 = A 264 := bh 264 (by decide)
  obtain ⟨o1, o2, o3, o4, o5, o6, o7⟩ := lw_o I bh rfl
  obtain ⟨C, e2, m⟩ := r_feed (X := X) (d := d + 39) (G := G) (A := B) (j := j) (cc := cc) (a := (scN X (i + 1))) (b := (scN X (i + 2))) (c := (scN X (i + 3))) (d5 := (scN X (i + 4))) (e := (scN X (i + 5))) g1 o5 (scN_lt _ _) (scN_lt _ _) (scN_lt _ _) (scN_lt _ _) (scN_lt _ _)
  have h9 : B 263 9 = A 0 1 := by rw [bh 263 (by decide)]; exact I.2.2.2.1.1.symm
  rw [h9] at e2 m
  have hI : ivI (md9 C) j := ivI_feed I k m
  rw [← md9_I C] at e2
  have KK := K (md9 C) j cc l5 l6 hI (ccl_rf cc)
  exact (pv_aload_n rfl rfl (pv_xload_n rfl rfl (pv_iload rfl rfl (pn_iconst (u := 1) rfl rfl (pn_iadd rfl (pn_scN rfl (by omega) hX (pv_xload_n rfl rfl (pv_iload rfl rfl (pn_iconst (u := 2) rfl rfl (pn_iadd rfl (pn_scN rfl (by omega) hX (pv_xload_n rfl rfl (pv_iload rfl rfl (pn_iconst (u := 3) rfl rfl (pn_iadd rfl (pn_scN rfl (by omega) hX (pv_xload_n rfl rfl (pv_iload rfl rfl (pn_iconst (u := 4) rfl rfl (pn_iadd rfl (pn_scN rfl (by omega) hX (pv_xload_n rfl rfl (pv_iload rfl rfl (pn_iconst (u := 5) rfl rfl (pn_iadd rfl (pn_scN rfl (by omega) hX (pv_virt rfl rfl rfl rfl rfl (oX11_k g0) rfl rfl rfl e1 (pv_aload_n rfl rfl (pv_xload_n rfl rfl (pv_iload rfl rfl (pn_iconst (u := 1) rfl rfl (pn_iadd rfl (pn_scN rfl (by omega) hX (pv_xload_n rfl rfl (pv_iload rfl rfl (pn_iconst (u := 2) rfl rfl (pn_iadd rfl (pn_scN rfl (by omega) hX (pv_xload_n rfl rfl (pv_iload rfl rfl (pn_iconst (u := 3) rfl rfl (pn_iadd rfl (pn_scN rfl (by omega) hX (pv_xload_n rfl rfl (pv_iload rfl rfl (pn_iconst (u := 4) rfl rfl (pn_iadd rfl (pn_scN rfl (by omega) hX (pv_xload_n rfl rfl (pv_iload rfl rfl (pn_iconst (u := 5) rfl rfl (pn_iadd rfl (pn_scN rfl (by omega) hX (pv_virt rfl rfl rfl rfl rfl (oX12_k g1) rfl rfl rfl e2 (pv_ic_eq rfl (fun _ => KK) (fun e => absurd rfl e))))))))))))))))))))))))))))))))))))))))))))))))))))))))
theorem lw_c1 {X : gv_X} {d : Nat} {G : gv_Sh} {A : Nat → Nat → Nat} {j : Nat → Nat → Int64} {cc : gv_Rs} {P : gv_O × gv_S → Prop} {i : Nat} {l5 l6 : Option Value} (hg : ivG G) (hX : X.2 < 2147483648) (hi : i + 6 ≤ X.2) (I : ivI A j) (K : ivK X d G P i cc) : EvP X (d + 40) gvm_385 337 [some (.retAddr 0), some (.ref 0), some (.ref 263), some (.ref 279), some (.int (nI i)), l5, l6] [] (G, (mI A, j), cc) P := by
  obtain ⟨g0, g1, g2, g3, g4⟩ := hg
  have t2 := lw_2 I.2.2.2.1 I.2.2.1
  obtain ⟨B, e1, k⟩ := c_end (X := X) (d := d + 39) (G := G) (A := A) (j := j) (cc := cc) (n := (scN X (i + 1)))  g0 (scN_lt _ _) t2.1
  have bh : ∀ q, 263 ≤ q → B q = A q := (fun q hq => by rw [k]; split; exact gu_row (by omega); rfl)
  have b4 : B 264 = A 264 := bh 264 (by decide)
  obtain ⟨o1, o2, o3, o4, o5, o6, o7⟩ := lw_o I bh rfl
  obtain ⟨C, e2, m⟩ := r_end (X := X) (d := d + 39) (G := G) (A := B) (j := j) (cc := cc) (n := (scN X (i + 1))) g1 o5 (scN_lt _ _)
  have h9 : B 263 9 = A 0 1 := by rw [bh 263 (by decide)]; exact I.2.2.2.1.1.symm
  rw [h9] at e2 m
  have hI : ivI C j := ivI_end I k m
  have KK := K C j cc l5 l6 hI (ccl_rf cc)
  exact (pv_aload_n rfl rfl (pv_xload_n rfl rfl (pv_iload rfl rfl (pn_iconst (u := 1) rfl rfl (pn_iadd rfl (pn_scN rfl (by omega) hX (pv_virt rfl rfl rfl rfl rfl (oX11_k g0) rfl rfl rfl e1 (pv_aload_n rfl rfl (pv_xload_n rfl rfl (pv_iload rfl rfl (pn_iconst (u := 1) rfl rfl (pn_iadd rfl (pn_scN rfl (by omega) hX (pv_virt rfl rfl rfl rfl rfl (oX12_k g1) rfl rfl rfl e2 (pv_ic_eq rfl (fun _ => KK) (fun e => absurd rfl e))))))))))))))))
theorem lw_c2 {X : gv_X} {d : Nat} {G : gv_Sh} {A : Nat → Nat → Nat} {j : Nat → Nat → Int64} {cc : gv_Rs} {P : gv_O × gv_S → Prop} {i : Nat} {l5 l6 : Option Value} (hg : ivG G) (hX : X.2 < 2147483648) (hi : i + 6 ≤ X.2) (I : ivI A j) (K : ivK X d G P i cc) : EvP X (d + 40) gvm_385 362 [some (.retAddr 0), some (.ref 0), some (.ref 263), some (.ref 279), some (.int (nI i)), l5, l6] [] (G, (mI A, j), cc) P := by
  obtain ⟨g0, g1, g2, g3, g4⟩ := hg
  have t2 := lw_2 I.2.2.2.1 I.2.2.1
  obtain ⟨B, jb, c1, k, hv, hj, hcl, le, e1⟩ := wr_353 (X := X) (d := d + 31) (G := G) (A := A) (j := j) (cc := cc)  (t := (A 269)) (R := (A 264)) g0 g2 I.1 t2.1 t2.2
  have bh : ∀ q, 263 ≤ q → B q = A q := (fun q hq => k.2.2.2.2.2 q (by omega) (by omega) (by omega) (by omega) (by omega) (by omega))
  have b4 : B 264 = A 264 := bh 264 (by decide)
  obtain ⟨o1, o2, o3, o4, o5, o6, o7⟩ := lw_o I bh (hj 274 (by decide))
  obtain ⟨C, e2, m⟩ := r_bench (X := X) (d := d + 9) (G := G) (A := B) (j := jb) (cc := c1)  g1 o5 o6 (by rw [b4]; exact o1)
  have h9 : B 263 9 = A 0 1 := by rw [bh 263 (by decide)]; exact I.2.2.2.1.1.symm
  rw [b4, bh 269 (by decide), h9] at e2 m
  obtain ⟨m0, el⟩ := be_code (A := A) I.1.1 m
  rw [el] at e2
  have hI : ivI C jb := ivI_j (ivI_be I k m) (hj 274 (by decide))
  have e3 := r_thrown (X := X) (d := d + 39) (G := G) (A := C) (j := jb) (cc := c1) g1
  rw [m0] at e3
  have j9 : jb 279 = jb 279 := rfl
  have LC : nI (spBe (A 269) (A 0 1) (A 264)).1 = 0 → lg_cmp (jb 279 0) (Int32.toInt64 (nI (spBe (A 269) (A 0 1) (A 264)).2)) = 0 := fun z => by
    have z0 : (spBe (A 269) (A 0 1) (A 264)).1 = 0 := by rw [← nI_0, nn_eq] at z; omega
    rw [j9, hv z0]; exact lcs _
  have KK := K C jb c1 (some (.int (nI (spBe (A 269) (A 0 1) (A 264)).1))) (some (.int (nI (spBe (A 269) (A 0 1) (A 264)).2))) hI hcl
  exact (pv_aload_n rfl rfl (pv_aload_n rfl rfl (pv_stat rfl rfl rfl rfl rfl rfl rfl rfl e1 (pv_istore rfl rfl (pv_aload_n rfl rfl (pv_virt rfl rfl rfl rfl rfl (oX12_k g1) rfl rfl rfl e2 (pv_istore rfl rfl (pv_aload_n rfl rfl (pv_virt rfl rfl rfl rfl rfl (oX12_k g1) rfl rfl rfl e3 (pv_iload rfl rfl (pv_ic_eq rfl (fun _ => (pv_iload rfl rfl (pv_if_ne rfl (fun _ => (pv_goto rfl KK)) (fun z => have lc := LC z; (pv_aload_n rfl rfl (pn_iconst (u := 0) rfl rfl (pn_lald rfl g2 (by decide) (by decide) (pv_iload rfl rfl (pv_i2l rfl (pv_lcmp rfl (pv_if_eq rfl (fun _ => (pv_goto rfl KK)) (fun e => absurd lc e)))))))))))) (fun e => absurd rfl e))))))))))))
theorem lw_c3 {X : gv_X} {d : Nat} {G : gv_Sh} {A : Nat → Nat → Nat} {j : Nat → Nat → Int64} {cc : gv_Rs} {P : gv_O × gv_S → Prop} {i : Nat} {l5 l6 : Option Value} (hg : ivG G) (hX : X.2 < 2147483648) (hi : i + 6 ≤ X.2) (I : ivI A j) (K : ivK X d G P i cc) : EvP X (d + 40) gvm_385 406 [some (.retAddr 0), some (.ref 0), some (.ref 263), some (.ref 279), some (.int (nI i)), l5, l6] [] (G, (mI A, j), cc) P := by
  obtain ⟨g0, g1, g2, g3, g4⟩ := hg
  have t2 := lw_2 I.2.2.2.1 I.2.2.1
  obtain ⟨B, jb, c1, k, hv, hj, hcl, le, e1⟩ := wr_354 (X := X) (d := d + 4) (G := G) (A := A) (j := j) (cc := cc)  (t := (A 269)) (R := (A 264)) g0 g2 I.1 t2.1 t2.2
  have bh : ∀ q, 263 ≤ q → B q = A q := (fun q hq => k.2.2.2.2.2 q (by omega) (by omega) (by omega) (by omega) (by omega) (by omega) (by omega))
  have b4 : B 264 = A 264 := bh 264 (by decide)
  obtain ⟨o1, o2, o3, o4, o5, o6, o7⟩ := lw_o I bh (hj 274 (by decide))
  obtain ⟨C, e2, m⟩ := r_law (X := X) (d := d + 9) (G := G) (A := B) (j := jb) (cc := c1)  g1 o5 o6 (by rw [b4]; exact o1)
  have h9 : B 263 9 = A 0 1 := by rw [bh 263 (by decide)]; exact I.2.2.2.1.1.symm
  rw [b4, bh 269 (by decide), h9] at e2 m
  obtain ⟨m0, el⟩ := la_code m
  rw [el] at e2
  have hI : ivI C jb := ivI_j (ivI_la I k m) (hj 274 (by decide))
  have e3 := r_thrown (X := X) (d := d + 39) (G := G) (A := C) (j := jb) (cc := c1) g1
  rw [m0] at e3
  have j9 : jb 279 = jb 279 := rfl
  have LC : nI (spLa (A 269) (A 0 1) (A 264)).1 = 0 → lg_cmp (jb 279 0) (Int32.toInt64 (nI (spLa (A 269) (A 0 1) (A 264)).2)) = 0 := fun z => by
    have z0 : (spLa (A 269) (A 0 1) (A 264)).1 = 0 := by rw [← nI_0, nn_eq] at z; omega
    rw [j9, hv z0]; exact lcs _
  have KK := K C jb c1 (some (.int (nI (spLa (A 269) (A 0 1) (A 264)).1))) (some (.int (nI (spLa (A 269) (A 0 1) (A 264)).2))) hI hcl
  exact (pv_aload_n rfl rfl (pv_aload_n rfl rfl (pv_stat rfl rfl rfl rfl rfl rfl rfl rfl e1 (pv_istore rfl rfl (pv_aload_n rfl rfl (pv_virt rfl rfl rfl rfl rfl (oX12_k g1) rfl rfl rfl e2 (pv_istore rfl rfl (pv_aload_n rfl rfl (pv_virt rfl rfl rfl rfl rfl (oX12_k g1) rfl rfl rfl e3 (pv_iload rfl rfl (pv_ic_eq rfl (fun _ => (pv_iload rfl rfl (pv_if_ne rfl (fun _ => (pv_goto rfl KK)) (fun z => have lc := LC z; (pv_aload_n rfl rfl (pn_iconst (u := 0) rfl rfl (pn_lald rfl g2 (by decide) (by decide) (pv_iload rfl rfl (pv_i2l rfl (pv_lcmp rfl (pv_if_eq rfl (fun _ => (pv_goto rfl KK)) (fun e => absurd lc e)))))))))))) (fun e => absurd rfl e))))))))))))
theorem lw_c47 {X : gv_X} {d : Nat} {G : gv_Sh} {A : Nat → Nat → Nat} {j : Nat → Nat → Int64} {cc : gv_Rs} {P : gv_O × gv_S → Prop} {i : Nat} {l5 l6 : Option Value} (hg : ivG G) (hX : X.2 < 2147483648) (hi : i + 6 ≤ X.2) (I : ivI A j) (K : ivK X d G P i cc) : EvP X (d + 40) gvm_385 2650 [some (.retAddr 0), some (.ref 0), some (.ref 263), some (.ref 279), some (.int (nI i)), l5, l6] [] (G, (mI A, j), cc) P := by
  obtain ⟨g0, g1, g2, g3, g4⟩ := hg
  obtain ⟨B, e1, k⟩ := c_seed (X := X) (d := d + 39) (G := G) (A := A) (j := j) (cc := cc) (n := (scN X (i + 1))) (R := (A 264)) g0 I.1 (scN_lt _ _)
  have bh : ∀ q, 263 ≤ q → B q = A q := (fun q hq => k.2 q (by omega))
  have b4 : B 264 = A 264 := bh 264 (by decide)
  obtain ⟨o1, o2, o3, o4, o5, o6, o7⟩ := lw_o I bh rfl
  have e2 := r_seed (X := X) (d := d + 39) (G := G) (A := B) (j := j) (cc := cc) (n := (scN X (i + 1))) g1 
  rw [b4] at e2
  have hI := ivI_seed (n := (scN X (i + 1))) I k
  have KK := K (gu (gu B 263 0 0) 264 11 (scN X (i + 1))) j cc l5 l6 hI (ccl_rf cc)
  exact (pv_aload_n rfl rfl (pv_xload_n rfl rfl (pv_iload rfl rfl (pn_iconst (u := 1) rfl rfl (pn_iadd rfl (pn_scN rfl (by omega) hX (pv_virt rfl rfl rfl rfl rfl (oX11_k g0) rfl rfl rfl e1 (pv_aload_n rfl rfl (pv_xload_n rfl rfl (pv_iload rfl rfl (pn_iconst (u := 1) rfl rfl (pn_iadd rfl (pn_scN rfl (by omega) hX (pv_virt rfl rfl rfl rfl rfl (oX12_k g1) rfl rfl rfl e2 (pv_ic_eq rfl (fun _ => KK) (fun e => absurd rfl e))))))))))))))))
theorem lw_c48 {X : gv_X} {d : Nat} {G : gv_Sh} {A : Nat → Nat → Nat} {j : Nat → Nat → Int64} {cc : gv_Rs} {P : gv_O × gv_S → Prop} {i : Nat} {l5 l6 : Option Value} (hg : ivG G) (hX : X.2 < 2147483648) (hi : i + 6 ≤ X.2) (I : ivI A j) (K : ivK X d G P i cc) : EvP X (d + 40) gvm_385 2675 [some (.retAddr 0), some (.ref 0), some (.ref 263), some (.ref 279), some (.int (nI i)), l5, l6] [] (G, (mI A, j), cc) P := by
  obtain ⟨g0, g1, g2, g3, g4⟩ := hg
  obtain ⟨Q, hQ, hq⟩ := I.2.2.2.2.2
  obtain ⟨B, e1, k⟩ := c_undo (X := X) (d := d + 36) (G := G) (A := A) (j := j) (cc := cc)  (R := (A 264)) (Q := Q) g0 I.1 hQ (fun a ha => (hq.2 a (by rw [← hq.1]; exact ha)).1)
  have bh : ∀ q, 263 ≤ q → B q = A q := (frJ_hi k.2.2)
  have b4 : B 264 = A 264 := bh 264 (by decide)
  obtain ⟨o1, o2, o3, o4, o5, o6, o7⟩ := lw_o I bh rfl
  obtain ⟨C, e2, m⟩ := r_undo (X := X) (d := d + 39) (G := G) (A := B) (j := j) (cc := cc)  g1 o4
  have h7 : B 263 7 = A 76 1 := by rw [bh 263 (by decide)]; exact hq.1.symm
  rw [b4, bh 268 (by decide), h7] at m
  rw [h7] at e2
  have hI : ivI C j := ivI_undo I hQ hq k m
  have KK := K C j cc l5 l6 hI (ccl_rf cc)
  exact (pv_aload_n rfl rfl (pv_virt rfl rfl rfl rfl rfl (oX11_k g0) rfl rfl rfl e1 (pv_aload_n rfl rfl (pv_virt rfl rfl rfl rfl rfl (oX12_k g1) rfl rfl rfl e2 (pv_ic_eq rfl (fun _ => KK) (fun e => absurd rfl e))))))
theorem lw_c49 {X : gv_X} {d : Nat} {G : gv_Sh} {A : Nat → Nat → Nat} {j : Nat → Nat → Int64} {cc : gv_Rs} {P : gv_O × gv_S → Prop} {i : Nat} {l5 l6 : Option Value} (hg : ivG G) (hX : X.2 < 2147483648) (hi : i + 6 ≤ X.2) (I : ivI A j) (K : ivK X d G P i cc) : EvP X (d + 40) gvm_385 2688 [some (.retAddr 0), some (.ref 0), some (.ref 263), some (.ref 279), some (.int (nI i)), l5, l6] [] (G, (mI A, j), cc) P := by
  obtain ⟨g0, g1, g2, g3, g4⟩ := hg
  obtain ⟨B, e1, k⟩ := c_image (X := X) (d := d + 37) (G := G) (A := A) (j := j) (cc := cc)  (R := (A 264)) g0 I.1
  have bh : ∀ q, 263 ≤ q → B q = A q := (fun q hq => k.2.2.2.2 q (by omega) (by omega) (by omega))
  have b4 : B 264 = A 264 := bh 264 (by decide)
  obtain ⟨o1, o2, o3, o4, o5, o6, o7⟩ := lw_o I bh rfl
  obtain ⟨C, e2, m⟩ := r_image (X := X) (d := d + 39) (G := G) (A := B) (j := j) (cc := cc)  g1 
  rw [b4] at m
  have hI : ivI C j := ivI_image I k m
  have KK := K C j cc l5 l6 hI (ccl_rf cc)
  exact (pv_aload_n rfl rfl (pv_virt rfl rfl rfl rfl rfl (oX11_k g0) rfl rfl rfl e1 (pv_aload_n rfl rfl (pv_virt rfl rfl rfl rfl rfl (oX12_k g1) rfl rfl rfl e2 (pv_goto rfl KK)))))
theorem lw_c50 {X : gv_X} {d : Nat} {G : gv_Sh} {A : Nat → Nat → Nat} {j : Nat → Nat → Int64} {cc : gv_Rs} {P : gv_O × gv_S → Prop} {i : Nat} {l5 l6 : Option Value} (hg : ivG G) (hX : X.2 < 2147483648) (hi : i + 6 ≤ X.2) (I : ivI A j) (K : ivK X d G P i cc) : EvP X (d + 40) gvm_385 2699 [some (.retAddr 0), some (.ref 0), some (.ref 263), some (.ref 279), some (.int (nI i)), l5, l6] [] (G, (mI A, j), cc) P := by
  obtain ⟨g0, g1, g2, g3, g4⟩ := hg
  have i6 : A 0 6 ≤ 1 := by rw [I.2.2.2.2.1.1]; exact I.2.2.1.2.2.1
  obtain ⟨B, e1, k⟩ := c_back (X := X) (d := d + 36) (G := G) (A := A) (j := j) (cc := cc)  (R := (A 264)) (U := (A 265)) g0 I.1 i6 (fun z => I.2.2.2.2.1.2 (by rw [← I.2.2.2.2.1.1]; exact z))
  have bh : ∀ q, 263 ≤ q → B q = A q := (fun q hq => k.2.2 q (by omega) (by omega) (by omega) (by omega) (by omega))
  have b4 : B 264 = A 264 := bh 264 (by decide)
  obtain ⟨o1, o2, o3, o4, o5, o6, o7⟩ := lw_o I bh rfl
  obtain ⟨C, e2, m⟩ := r_back (X := X) (d := d + 39) (G := G) (A := B) (j := j) (cc := cc)  g1 o7
  have h6 : B 263 6 = A 0 6 := by rw [bh 263 (by decide)]; exact I.2.2.2.2.1.1.symm
  have h7 : B 263 7 = A 263 7 := by rw [bh 263 (by decide)]
  rw [b4, bh 265 (by decide), h6, h7] at m
  rw [h6] at e2
  have hI : ivI C j := ivI_back I k m
  have KK := K C j cc l5 l6 hI (ccl_rf cc)
  exact (pv_aload_n rfl rfl (pv_virt rfl rfl rfl rfl rfl (oX11_k g0) rfl rfl rfl e1 (pv_aload_n rfl rfl (pv_virt rfl rfl rfl rfl rfl (oX12_k g1) rfl rfl rfl e2 (pv_ic_eq rfl (fun _ => KK) (fun e => absurd rfl e))))))
