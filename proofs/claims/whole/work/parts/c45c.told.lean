/-! rows told, of the law -/
theorem lw_c32 {X : gv_X} {d : Nat} {G : gv_Sh} {A : Nat → Nat → Nat} {j : Nat → Nat → Int64} {cc : gv_Rs} {P : gv_O × gv_S → Prop} {i : Nat} {l5 l6 : Option Value} (hg : ivG G) (hX : X.2 < 2147483648) (hi : i + 6 ≤ X.2) (I : ivI A j) (K : ivK X d G P i cc) : EvP X (d + 40) gvm_385 1839 [some (.retAddr 0), some (.ref 0), some (.ref 263), some (.ref 279), some (.int (nI i)), l5, l6] [] (G, (mI A, j), cc) P := by
  obtain ⟨g0, g1, g2, g3, g4⟩ := hg
  have t2 := lw_2 I.2.2.2.1 I.2.2.1
  obtain ⟨B, jb, c1, k, hv, hj, hcl, le, e1⟩ := wr_373 (X := X) (d := d + 31) (G := G) (A := A) (j := j) (cc := cc)  (t := (A 269)) (R := (A 264)) g0 g2 I.1 t2.1 t2.2
  have bh : ∀ q, 263 ≤ q → B q = A q := (fun q hq => k.2.2.2 q (by omega) (by omega) (by omega) (by omega))
  have b4 : B 264 = A 264 := bh 264 (by decide)
  obtain ⟨o1, o2, o3, o4, o5, o6, o7⟩ := lw_o I bh (hj 274 (by decide))
  obtain ⟨C, jc, e2, m⟩ := r_which (X := X) (d := d + 31) (G := G) (A := B) (j := jb) (cc := c1)  g1 (by rw [b4]; exact o1) o3 o5 o6
  have h9 : B 263 9 = A 0 1 := by rw [bh 263 (by decide)]; exact I.2.2.2.1.1.symm
  have m0 := m.2.2
  rw [b4, bh 269 (by decide), h9] at e2 m0
  have hI : ivI C jc := ivI_t I k.1 k.2 m.1 m.2.1
  have e3 := r_thrown (X := X) (d := d + 39) (G := G) (A := C) (j := jc) (cc := c1) g1
  rw [m0] at e3
  have j9 : jc 279 = jb 279 := ev_279 e2 (clT_c cl_263 clT_nil) g3 g4
  have LC : nI (spWhich (A 264) (A 269) (A 0 1)).1 = 0 → lg_cmp (jc 279 0) (Int32.toInt64 (nI (spWhich (A 264) (A 269) (A 0 1)).2)) = 0 := fun z => by
    have z0 : (spWhich (A 264) (A 269) (A 0 1)).1 = 0 := by rw [← nI_0, nn_eq] at z; omega
    rw [j9, hv z0]; exact lcs _
  have KK := K C jc c1 (some (.int (nI (spWhich (A 264) (A 269) (A 0 1)).1))) (some (.int (nI (spWhich (A 264) (A 269) (A 0 1)).2))) hI hcl
  exact (pv_aload_n rfl rfl (pv_aload_n rfl rfl (pv_stat rfl rfl rfl rfl rfl rfl rfl rfl e1 (pv_istore rfl rfl (pv_aload_n rfl rfl (pv_virt rfl rfl rfl rfl rfl (oX12_k g1) rfl rfl rfl e2 (pv_istore rfl rfl (pv_aload_n rfl rfl (pv_virt rfl rfl rfl rfl rfl (oX12_k g1) rfl rfl rfl e3 (pv_iload rfl rfl (pv_ic_eq rfl (fun _ => (pv_iload rfl rfl (pv_if_ne rfl (fun _ => (pv_goto rfl KK)) (fun z => have lc := LC z; (pv_aload_n rfl rfl (pn_iconst (u := 0) rfl rfl (pn_lald rfl g2 (by decide) (by decide) (pv_iload rfl rfl (pv_i2l rfl (pv_lcmp rfl (pv_if_eq rfl (fun _ => (pv_goto rfl KK)) (fun e => absurd lc e)))))))))))) (fun e => absurd rfl e))))))))))))
theorem lw_c33 {X : gv_X} {d : Nat} {G : gv_Sh} {A : Nat → Nat → Nat} {j : Nat → Nat → Int64} {cc : gv_Rs} {P : gv_O × gv_S → Prop} {i : Nat} {l5 l6 : Option Value} (hg : ivG G) (hX : X.2 < 2147483648) (hi : i + 6 ≤ X.2) (I : ivI A j) (K : ivK X d G P i cc) : EvP X (d + 40) gvm_385 1883 [some (.retAddr 0), some (.ref 0), some (.ref 263), some (.ref 279), some (.int (nI i)), l5, l6] [] (G, (mI A, j), cc) P := by
  obtain ⟨g0, g1, g2, g3, g4⟩ := hg
  have t2 := lw_2 I.2.2.2.1 I.2.2.1
  obtain ⟨B, jb, c1, k, hv, hj, hcl, le, e1⟩ := wr_374 (X := X) (d := d + 31) (G := G) (A := A) (j := j) (cc := cc)  (t := (A 269)) (R := (A 264)) g0 g2 I.1 t2.1 t2.2
  have bh : ∀ q, 263 ≤ q → B q = A q := (fun q hq => k.2.2.2 q (by omega) (by omega) (by omega) (by omega))
  have b4 : B 264 = A 264 := bh 264 (by decide)
  obtain ⟨o1, o2, o3, o4, o5, o6, o7⟩ := lw_o I bh (hj 274 (by decide))
  obtain ⟨C, jc, e2, m⟩ := r_likely (X := X) (d := d + 31) (G := G) (A := B) (j := jb) (cc := c1)  g1 (by rw [b4]; exact o1) o3 o5 o6
  have h9 : B 263 9 = A 0 1 := by rw [bh 263 (by decide)]; exact I.2.2.2.1.1.symm
  have m0 := m.2.2
  rw [b4, bh 269 (by decide), h9] at e2 m0
  have hI : ivI C jc := ivI_t I k.1 k.2 m.1 m.2.1
  have e3 := r_thrown (X := X) (d := d + 39) (G := G) (A := C) (j := jc) (cc := c1) g1
  rw [m0] at e3
  have j9 : jc 279 = jb 279 := ev_279 e2 (clT_c cl_263 clT_nil) g3 g4
  have LC : nI (spLikely (A 264) (A 269) (A 0 1)).1 = 0 → lg_cmp (jc 279 0) (Int32.toInt64 (nI (spLikely (A 264) (A 269) (A 0 1)).2)) = 0 := fun z => by
    have z0 : (spLikely (A 264) (A 269) (A 0 1)).1 = 0 := by rw [← nI_0, nn_eq] at z; omega
    rw [j9, hv z0]; exact lcs _
  have KK := K C jc c1 (some (.int (nI (spLikely (A 264) (A 269) (A 0 1)).1))) (some (.int (nI (spLikely (A 264) (A 269) (A 0 1)).2))) hI hcl
  exact (pv_aload_n rfl rfl (pv_aload_n rfl rfl (pv_stat rfl rfl rfl rfl rfl rfl rfl rfl e1 (pv_istore rfl rfl (pv_aload_n rfl rfl (pv_virt rfl rfl rfl rfl rfl (oX12_k g1) rfl rfl rfl e2 (pv_istore rfl rfl (pv_aload_n rfl rfl (pv_virt rfl rfl rfl rfl rfl (oX12_k g1) rfl rfl rfl e3 (pv_iload rfl rfl (pv_ic_eq rfl (fun _ => (pv_iload rfl rfl (pv_if_ne rfl (fun _ => (pv_goto rfl KK)) (fun z => have lc := LC z; (pv_aload_n rfl rfl (pn_iconst (u := 0) rfl rfl (pn_lald rfl g2 (by decide) (by decide) (pv_iload rfl rfl (pv_i2l rfl (pv_lcmp rfl (pv_if_eq rfl (fun _ => (pv_goto rfl KK)) (fun e => absurd lc e)))))))))))) (fun e => absurd rfl e))))))))))))
theorem lw_c34 {X : gv_X} {d : Nat} {G : gv_Sh} {A : Nat → Nat → Nat} {j : Nat → Nat → Int64} {cc : gv_Rs} {P : gv_O × gv_S → Prop} {i : Nat} {l5 l6 : Option Value} (hg : ivG G) (hX : X.2 < 2147483648) (hi : i + 6 ≤ X.2) (I : ivI A j) (K : ivK X d G P i cc) : EvP X (d + 40) gvm_385 1927 [some (.retAddr 0), some (.ref 0), some (.ref 263), some (.ref 279), some (.int (nI i)), l5, l6] [] (G, (mI A, j), cc) P := by
  obtain ⟨g0, g1, g2, g3, g4⟩ := hg
  have t2 := lw_2 I.2.2.2.1 I.2.2.1
  obtain ⟨B, jb, c1, k, hv, hj, hcl, le, e1⟩ := wr_375 (X := X) (d := d + 31) (G := G) (A := A) (j := j) (cc := cc)  (t := (A 269)) (R := (A 264)) g0 g2 I.1 t2.1 t2.2
  have bh : ∀ q, 263 ≤ q → B q = A q := (fun q hq => k.2.2.2 q (by omega) (by omega) (by omega) (by omega))
  have b4 : B 264 = A 264 := bh 264 (by decide)
  obtain ⟨o1, o2, o3, o4, o5, o6, o7⟩ := lw_o I bh (hj 274 (by decide))
  obtain ⟨C, jc, e2, m⟩ := r_ask (X := X) (d := d + 31) (G := G) (A := B) (j := jb) (cc := c1)  g1 (by rw [b4]; exact o1) o3 o5 o6
  have h9 : B 263 9 = A 0 1 := by rw [bh 263 (by decide)]; exact I.2.2.2.1.1.symm
  have m0 := m.2.2
  rw [b4, bh 269 (by decide), h9] at e2 m0
  have hI : ivI C jc := ivI_t I k.1 k.2 m.1 m.2.1
  have e3 := r_thrown (X := X) (d := d + 39) (G := G) (A := C) (j := jc) (cc := c1) g1
  rw [m0] at e3
  have j9 : jc 279 = jb 279 := ev_279 e2 (clT_c cl_263 clT_nil) g3 g4
  have LC : nI (spAsk (A 264) (A 269) (A 0 1)).1 = 0 → lg_cmp (jc 279 0) (Int32.toInt64 (nI (spAsk (A 264) (A 269) (A 0 1)).2)) = 0 := fun z => by
    have z0 : (spAsk (A 264) (A 269) (A 0 1)).1 = 0 := by rw [← nI_0, nn_eq] at z; omega
    rw [j9, hv z0]; exact lcs _
  have KK := K C jc c1 (some (.int (nI (spAsk (A 264) (A 269) (A 0 1)).1))) (some (.int (nI (spAsk (A 264) (A 269) (A 0 1)).2))) hI hcl
  exact (pv_aload_n rfl rfl (pv_aload_n rfl rfl (pv_stat rfl rfl rfl rfl rfl rfl rfl rfl e1 (pv_istore rfl rfl (pv_aload_n rfl rfl (pv_virt rfl rfl rfl rfl rfl (oX12_k g1) rfl rfl rfl e2 (pv_istore rfl rfl (pv_aload_n rfl rfl (pv_virt rfl rfl rfl rfl rfl (oX12_k g1) rfl rfl rfl e3 (pv_iload rfl rfl (pv_ic_eq rfl (fun _ => (pv_iload rfl rfl (pv_if_ne rfl (fun _ => (pv_goto rfl KK)) (fun z => have lc := LC z; (pv_aload_n rfl rfl (pn_iconst (u := 0) rfl rfl (pn_lald rfl g2 (by decide) (by decide) (pv_iload rfl rfl (pv_i2l rfl (pv_lcmp rfl (pv_if_eq rfl (fun _ => (pv_goto rfl KK)) (fun e => absurd lc e)))))))))))) (fun e => absurd rfl e))))))))))))
