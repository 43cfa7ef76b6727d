/-! acts of the law, second part -/
theorem lw_c16 {X : gv_X} {d : Nat} {G : gv_Sh} {A : Nat → Nat → Nat} {j : Nat → Nat → Int64} {cc : gv_Rs} {P : gv_O × gv_S → Prop} {i : Nat} {l5 l6 : Option Value} (hg : ivG G) (hX : X.2 < 2147483648) (hi : i + 6 ≤ X.2) (I : ivI A j) (K : ivK X d G P i cc) : EvP X (d + 40) gvm_385 1189 [some (.retAddr 0), some (.ref 0), some (.ref 263), some (.ref 279), some (.int (nI i)), l5, l6] [] (G, (mI A, j), cc) P := by
  obtain ⟨g0, g1, g2, g3, g4⟩ := hg
  obtain ⟨Q, hQ, hq⟩ := I.2.2.2.2.2
  obtain ⟨B, jb, c1, k, hv, hj, hcl, le, e1⟩ := wr_364 (X := X) (d := d + 35) (G := G) (A := A) (j := j) (cc := cc) (k := (scN X (i + 1))) (p := (scN X (i + 2))) (R := (A 264)) (Q := Q) g0 g2 I.1 hQ (scN_lt _ _) (scN_lt _ _)
  have bh : ∀ q, 263 ≤ q → B q = A q := (frJ_hi k.2)
  have b4 : B 264 = A 264 := bh 264 (by decide)
  obtain ⟨o1, o2, o3, o4, o5, o6, o7⟩ := lw_o I bh (hj 274 (by decide))
  obtain ⟨C, e2, m⟩ := r_put (X := X) (d := d + 36) (G := G) (A := B) (j := jb) (cc := c1) (place := (scN X (i + 1))) (op := (scN X (i + 2))) g1 (by rw [b4]; exact o1) o3 o4 (scN_lt _ _) (scN_lt _ _)
  rw [b4] at e2 m
  have ec : (if min (A 264 3) 9 < (scN X (i + 1)) ∨ A 264 0 ≤ (scN X (i + 2)) then 1 else 0) = (spPu (A 264) (scN X (i + 1)) (scN X (i + 2))).1 := by
    unfold spPu
    (repeat' split) <;> first | rfl | omega | contradiction
  have el : (if min (A 264 3) 9 < (scN X (i + 1)) ∨ A 264 0 ≤ (scN X (i + 2)) then 0 else if (scN X (i + 1)) = A 264 3 then 4294967295 else A 264 (12 + (scN X (i + 1)))) = (spPu (A 264) (scN X (i + 1)) (scN X (i + 2))).2 := by
    unfold spPu
    (repeat' split) <;> first | rfl | omega | contradiction
  rw [ec] at m
  rw [el] at e2
  have hI : ivI C jb := ivI_a I hQ hq (fun z => eqV_pu (by
      unfold spPu at z
      by_cases y : min (A 264 3) 9 < (scN X (i + 1)) ∨ A 264 0 ≤ (scN X (i + 2))
      · rw [if_pos y] at z; cases z
      · omega)) k.1 k.2 m.1 m.2.1 m.2.2.1
  have m0 := m.2.2.2
  have e3 := r_thrown (X := X) (d := d + 39) (G := G) (A := C) (j := jb) (cc := c1) g1
  rw [m0] at e3
  have j9 : jb 279 = jb 279 := rfl
  have LC : nI (spPu (A 264) (scN X (i + 1)) (scN X (i + 2))).1 = 0 → lg_cmp (jb 279 0) (Int32.toInt64 (nI (spPu (A 264) (scN X (i + 1)) (scN X (i + 2))).2)) = 0 := fun z => by
    have z0 : (spPu (A 264) (scN X (i + 1)) (scN X (i + 2))).1 = 0 := by rw [← nI_0, nn_eq] at z; omega
    rw [j9, hv z0]; exact lcs _
  have KK := K C jb c1 (some (.int (nI (spPu (A 264) (scN X (i + 1)) (scN X (i + 2))).1))) (some (.int (nI (spPu (A 264) (scN X (i + 1)) (scN X (i + 2))).2))) hI hcl
  exact (pv_aload_n rfl rfl (pv_xload_n rfl rfl (pv_iload rfl rfl (pn_iconst (u := 1) rfl rfl (pn_iadd rfl (pn_scN rfl (by omega) hX (pv_xload_n rfl rfl (pv_iload rfl rfl (pn_iconst (u := 2) rfl rfl (pn_iadd rfl (pn_scN rfl (by omega) hX (pv_aload_n rfl rfl (pv_stat rfl rfl rfl rfl rfl rfl rfl rfl e1 (pv_istore rfl rfl (pv_aload_n rfl rfl (pv_xload_n rfl rfl (pv_iload rfl rfl (pn_iconst (u := 1) rfl rfl (pn_iadd rfl (pn_scN rfl (by omega) hX (pv_xload_n rfl rfl (pv_iload rfl rfl (pn_iconst (u := 2) rfl rfl (pn_iadd rfl (pn_scN rfl (by omega) hX (pv_virt rfl rfl rfl rfl rfl (oX12_k g1) rfl rfl rfl e2 (pv_istore rfl rfl (pv_aload_n rfl rfl (pv_virt rfl rfl rfl rfl rfl (oX12_k g1) rfl rfl rfl e3 (pv_iload rfl rfl (pv_ic_eq rfl (fun _ => (pv_iload rfl rfl (pv_if_ne rfl (fun _ => (pv_goto rfl KK)) (fun z => have lc := LC z; (pv_aload_n rfl rfl (pn_iconst (u := 0) rfl rfl (pn_lald rfl g2 (by decide) (by decide) (pv_iload rfl rfl (pv_i2l rfl (pv_lcmp rfl (pv_if_eq rfl (fun _ => (pv_goto rfl KK)) (fun e => absurd lc e)))))))))))) (fun e => absurd rfl e))))))))))))))))))))))))))))))))
theorem lw_c17 {X : gv_X} {d : Nat} {G : gv_Sh} {A : Nat → Nat → Nat} {j : Nat → Nat → Int64} {cc : gv_Rs} {P : gv_O × gv_S → Prop} {i : Nat} {l5 l6 : Option Value} (hg : ivG G) (hX : X.2 < 2147483648) (hi : i + 6 ≤ X.2) (I : ivI A j) (K : ivK X d G P i cc) : EvP X (d + 40) gvm_385 1257 [some (.retAddr 0), some (.ref 0), some (.ref 263), some (.ref 279), some (.int (nI i)), l5, l6] [] (G, (mI A, j), cc) P := by
  obtain ⟨g0, g1, g2, g3, g4⟩ := hg
  obtain ⟨Q, hQ, hq⟩ := I.2.2.2.2.2
  obtain ⟨B, jb, c1, k, hv, hj, hcl, le, e1⟩ := wr_365 (X := X) (d := d + 35) (G := G) (A := A) (j := j) (cc := cc) (c := (scN X (i + 1))) (n := (scN X (i + 2))) (R := (A 264)) (Q := Q) g0 g2 I.1 hQ (scN_lt _ _) (scN_lt _ _)
  have bh : ∀ q, 263 ≤ q → B q = A q := (frJ_hi k.2)
  have b4 : B 264 = A 264 := bh 264 (by decide)
  obtain ⟨o1, o2, o3, o4, o5, o6, o7⟩ := lw_o I bh (hj 274 (by decide))
  obtain ⟨C, e2, m⟩ := r_store (X := X) (d := d + 36) (G := G) (A := B) (j := jb) (cc := c1) (cell := (scN X (i + 1))) (n := (scN X (i + 2))) g1 (by rw [b4]; exact o1) o3 o4 (scN_lt _ _) (scN_lt _ _)
  rw [b4] at e2 m
  have ec : (if 7 < (scN X (i + 1)) then 1 else if 3 < (scN X (i + 2)) then 2 else 0) = (spSt (A 264) (scN X (i + 1)) (scN X (i + 2))).1 := by
    unfold spSt
    (repeat' split) <;> first | rfl | omega | contradiction
  have el : (if 7 < (scN X (i + 1)) then 0 else if 3 < (scN X (i + 2)) then 0 else A 264 (22 + (scN X (i + 1)))) = (spSt (A 264) (scN X (i + 1)) (scN X (i + 2))).2 := by
    unfold spSt
    (repeat' split) <;> first | rfl | omega | contradiction
  rw [ec] at m
  rw [el] at e2
  have hI : ivI C jb := ivI_a I hQ hq (fun z => eqV_se (by
      unfold spSt at z
      by_cases y : 7 < (scN X (i + 1))
      · rw [if_pos y] at z; cases z
      · omega)) k.1 k.2 m.1 m.2.1 m.2.2.1
  have m0 := m.2.2.2
  have e3 := r_thrown (X := X) (d := d + 39) (G := G) (A := C) (j := jb) (cc := c1) g1
  rw [m0] at e3
  have j9 : jb 279 = jb 279 := rfl
  have LC : nI (spSt (A 264) (scN X (i + 1)) (scN X (i + 2))).1 = 0 → lg_cmp (jb 279 0) (Int32.toInt64 (nI (spSt (A 264) (scN X (i + 1)) (scN X (i + 2))).2)) = 0 := fun z => by
    have z0 : (spSt (A 264) (scN X (i + 1)) (scN X (i + 2))).1 = 0 := by rw [← nI_0, nn_eq] at z; omega
    rw [j9, hv z0]; exact lcs _
  have KK := K C jb c1 (some (.int (nI (spSt (A 264) (scN X (i + 1)) (scN X (i + 2))).1))) (some (.int (nI (spSt (A 264) (scN X (i + 1)) (scN X (i + 2))).2))) hI hcl
  exact (pv_aload_n rfl rfl (pv_xload_n rfl rfl (pv_iload rfl rfl (pn_iconst (u := 1) rfl rfl (pn_iadd rfl (pn_scN rfl (by omega) hX (pv_xload_n rfl rfl (pv_iload rfl rfl (pn_iconst (u := 2) rfl rfl (pn_iadd rfl (pn_scN rfl (by omega) hX (pv_aload_n rfl rfl (pv_stat rfl rfl rfl rfl rfl rfl rfl rfl e1 (pv_istore rfl rfl (pv_aload_n rfl rfl (pv_xload_n rfl rfl (pv_iload rfl rfl (pn_iconst (u := 1) rfl rfl (pn_iadd rfl (pn_scN rfl (by omega) hX (pv_xload_n rfl rfl (pv_iload rfl rfl (pn_iconst (u := 2) rfl rfl (pn_iadd rfl (pn_scN rfl (by omega) hX (pv_virt rfl rfl rfl rfl rfl (oX12_k g1) rfl rfl rfl e2 (pv_istore rfl rfl (pv_aload_n rfl rfl (pv_virt rfl rfl rfl rfl rfl (oX12_k g1) rfl rfl rfl e3 (pv_iload rfl rfl (pv_ic_eq rfl (fun _ => (pv_iload rfl rfl (pv_if_ne rfl (fun _ => (pv_goto rfl KK)) (fun z => have lc := LC z; (pv_aload_n rfl rfl (pn_iconst (u := 0) rfl rfl (pn_lald rfl g2 (by decide) (by decide) (pv_iload rfl rfl (pv_i2l rfl (pv_lcmp rfl (pv_if_eq rfl (fun _ => (pv_goto rfl KK)) (fun e => absurd lc e)))))))))))) (fun e => absurd rfl e))))))))))))))))))))))))))))))))
theorem lw_c18 {X : gv_X} {d : Nat} {G : gv_Sh} {A : Nat → Nat → Nat} {j : Nat → Nat → Int64} {cc : gv_Rs} {P : gv_O × gv_S → Prop} {i : Nat} {l5 l6 : Option Value} (hg : ivG G) (hX : X.2 < 2147483648) (hi : i + 6 ≤ X.2) (I : ivI A j) (K : ivK X d G P i cc) : EvP X (d + 40) gvm_385 1325 [some (.retAddr 0), some (.ref 0), some (.ref 263), some (.ref 279), some (.int (nI i)), l5, l6] [] (G, (mI A, j), cc) P := by
  obtain ⟨g0, g1, g2, g3, g4⟩ := hg
  obtain ⟨Q, hQ, hq⟩ := I.2.2.2.2.2
  obtain ⟨B, jb, c1, k, hv, hj, hcl, le, e1⟩ := wr_366 (X := X) (d := d + 35) (G := G) (A := A) (j := j) (cc := cc) (n := (scN X (i + 1))) (R := (A 264)) (Q := Q) g0 g2 I.1 hQ (scN_lt _ _)
  have bh : ∀ q, 263 ≤ q → B q = A q := (frJ_hi k.2)
  have b4 : B 264 = A 264 := bh 264 (by decide)
  obtain ⟨o1, o2, o3, o4, o5, o6, o7⟩ := lw_o I bh (hj 274 (by decide))
  obtain ⟨C, e2, m⟩ := r_vector (X := X) (d := d + 35) (G := G) (A := B) (j := jb) (cc := c1) (n := (scN X (i + 1))) g1 (by rw [b4]; exact o1) o3 o4 (scN_lt _ _)
  rw [b4] at e2 m
  have ec : (if 9 < (scN X (i + 1)) then 1 else 0) = (spS 9 (scN X (i + 1)) ((A 264) 4)).1 := by
    unfold spS
    (repeat' split) <;> first | rfl | omega | contradiction
  have el : (if 9 < (scN X (i + 1)) then 0 else A 264 4) = (spS 9 (scN X (i + 1)) ((A 264) 4)).2 := by
    unfold spS
    (repeat' split) <;> first | rfl | omega | contradiction
  rw [ec] at m
  rw [el] at e2
  have hI : ivI C jb := ivI_a I hQ hq (fun _ => eqV_se (by decide)) k.1 k.2 m.1 m.2.1 m.2.2.1
  have m0 := m.2.2.2
  have e3 := r_thrown (X := X) (d := d + 39) (G := G) (A := C) (j := jb) (cc := c1) g1
  rw [m0] at e3
  have j9 : jb 279 = jb 279 := rfl
  have LC : nI (spS 9 (scN X (i + 1)) ((A 264) 4)).1 = 0 → lg_cmp (jb 279 0) (Int32.toInt64 (nI (spS 9 (scN X (i + 1)) ((A 264) 4)).2)) = 0 := fun z => by
    have z0 : (spS 9 (scN X (i + 1)) ((A 264) 4)).1 = 0 := by rw [← nI_0, nn_eq] at z; omega
    rw [j9, hv z0]; exact lcs _
  have KK := K C jb c1 (some (.int (nI (spS 9 (scN X (i + 1)) ((A 264) 4)).1))) (some (.int (nI (spS 9 (scN X (i + 1)) ((A 264) 4)).2))) hI hcl
  exact (pv_aload_n rfl rfl (pv_xload_n rfl rfl (pv_iload rfl rfl (pn_iconst (u := 1) rfl rfl (pn_iadd rfl (pn_scN rfl (by omega) hX (pv_aload_n rfl rfl (pv_stat rfl rfl rfl rfl rfl rfl rfl rfl e1 (pv_istore rfl rfl (pv_aload_n rfl rfl (pv_xload_n rfl rfl (pv_iload rfl rfl (pn_iconst (u := 1) rfl rfl (pn_iadd rfl (pn_scN rfl (by omega) hX (pv_virt rfl rfl rfl rfl rfl (oX12_k g1) rfl rfl rfl e2 (pv_istore rfl rfl (pv_aload_n rfl rfl (pv_virt rfl rfl rfl rfl rfl (oX12_k g1) rfl rfl rfl e3 (pv_iload rfl rfl (pv_ic_eq rfl (fun _ => (pv_iload rfl rfl (pv_if_ne rfl (fun _ => (pv_goto rfl KK)) (fun z => have lc := LC z; (pv_aload_n rfl rfl (pn_iconst (u := 0) rfl rfl (pn_lald rfl g2 (by decide) (by decide) (pv_iload rfl rfl (pv_i2l rfl (pv_lcmp rfl (pv_if_eq rfl (fun _ => (pv_goto rfl KK)) (fun e => absurd lc e)))))))))))) (fun e => absurd rfl e))))))))))))))))))))))
theorem lw_c19 {X : gv_X} {d : Nat} {G : gv_Sh} {A : Nat → Nat → Nat} {j : Nat → Nat → Int64} {cc : gv_Rs} {P : gv_O × gv_S → Prop} {i : Nat} {l5 l6 : Option Value} (hg : ivG G) (hX : X.2 < 2147483648) (hi : i + 6 ≤ X.2) (I : ivI A j) (K : ivK X d G P i cc) : EvP X (d + 40) gvm_385 1381 [some (.retAddr 0), some (.ref 0), some (.ref 263), some (.ref 279), some (.int (nI i)), l5, l6] [] (G, (mI A, j), cc) P := by
  obtain ⟨g0, g1, g2, g3, g4⟩ := hg
  obtain ⟨Q, hQ, hq⟩ := I.2.2.2.2.2
  obtain ⟨B, jb, c1, k, hv, hj, hcl, le, e1⟩ := wr_367 (X := X) (d := d + 35) (G := G) (A := A) (j := j) (cc := cc) (n := (scN X (i + 1))) (R := (A 264)) (Q := Q) g0 g2 I.1 hQ (scN_lt _ _)
  have bh : ∀ q, 263 ≤ q → B q = A q := (frJ_hi k.2)
  have b4 : B 264 = A 264 := bh 264 (by decide)
  obtain ⟨o1, o2, o3, o4, o5, o6, o7⟩ := lw_o I bh (hj 274 (by decide))
  obtain ⟨C, e2, m⟩ := r_shift (X := X) (d := d + 36) (G := G) (A := B) (j := jb) (cc := c1) (n := (scN X (i + 1))) g1 (by rw [b4]; exact o1) o3 o4 (scN_lt _ _)
  rw [b4] at e2 m
  have ec : (if 3 < (scN X (i + 1)) then 1 else 0) = (spS 3 (scN X (i + 1)) ((A 264) 5 / 2)).1 := by
    unfold spS
    (repeat' split) <;> first | rfl | omega | contradiction
  have el : (if 3 < (scN X (i + 1)) then 0 else A 264 5 / 2) = (spS 3 (scN X (i + 1)) ((A 264) 5 / 2)).2 := by
    unfold spS
    (repeat' split) <;> first | rfl | omega | contradiction
  rw [ec] at m
  rw [el] at e2
  have hI : ivI C jb := ivI_a I hQ hq (fun _ => eqV_se (by decide)) k.1 k.2 m.1 m.2.1 m.2.2.1
  have m0 := m.2.2.2
  have e3 := r_thrown (X := X) (d := d + 39) (G := G) (A := C) (j := jb) (cc := c1) g1
  rw [m0] at e3
  have j9 : jb 279 = jb 279 := rfl
  have LC : nI (spS 3 (scN X (i + 1)) ((A 264) 5 / 2)).1 = 0 → lg_cmp (jb 279 0) (Int32.toInt64 (nI (spS 3 (scN X (i + 1)) ((A 264) 5 / 2)).2)) = 0 := fun z => by
    have z0 : (spS 3 (scN X (i + 1)) ((A 264) 5 / 2)).1 = 0 := by rw [← nI_0, nn_eq] at z; omega
    rw [j9, hv z0]; exact lcs _
  have KK := K C jb c1 (some (.int (nI (spS 3 (scN X (i + 1)) ((A 264) 5 / 2)).1))) (some (.int (nI (spS 3 (scN X (i + 1)) ((A 264) 5 / 2)).2))) hI hcl
  exact (pv_aload_n rfl rfl (pv_xload_n rfl rfl (pv_iload rfl rfl (pn_iconst (u := 1) rfl rfl (pn_iadd rfl (pn_scN rfl (by omega) hX (pv_aload_n rfl rfl (pv_stat rfl rfl rfl rfl rfl rfl rfl rfl e1 (pv_istore rfl rfl (pv_aload_n rfl rfl (pv_xload_n rfl rfl (pv_iload rfl rfl (pn_iconst (u := 1) rfl rfl (pn_iadd rfl (pn_scN rfl (by omega) hX (pv_virt rfl rfl rfl rfl rfl (oX12_k g1) rfl rfl rfl e2 (pv_istore rfl rfl (pv_aload_n rfl rfl (pv_virt rfl rfl rfl rfl rfl (oX12_k g1) rfl rfl rfl e3 (pv_iload rfl rfl (pv_ic_eq rfl (fun _ => (pv_iload rfl rfl (pv_if_ne rfl (fun _ => (pv_goto rfl KK)) (fun z => have lc := LC z; (pv_aload_n rfl rfl (pn_iconst (u := 0) rfl rfl (pn_lald rfl g2 (by decide) (by decide) (pv_iload rfl rfl (pv_i2l rfl (pv_lcmp rfl (pv_if_eq rfl (fun _ => (pv_goto rfl KK)) (fun e => absurd lc e)))))))))))) (fun e => absurd rfl e))))))))))))))))))))))
theorem lw_c20 {X : gv_X} {d : Nat} {G : gv_Sh} {A : Nat → Nat → Nat} {j : Nat → Nat → Int64} {cc : gv_Rs} {P : gv_O × gv_S → Prop} {i : Nat} {l5 l6 : Option Value} (hg : ivG G) (hX : X.2 < 2147483648) (hi : i + 6 ≤ X.2) (I : ivI A j) (K : ivK X d G P i cc) : EvP X (d + 40) gvm_385 1437 [some (.retAddr 0), some (.ref 0), some (.ref 263), some (.ref 279), some (.int (nI i)), l5, l6] [] (G, (mI A, j), cc) P := by
  obtain ⟨g0, g1, g2, g3, g4⟩ := hg
  obtain ⟨Q, hQ, hq⟩ := I.2.2.2.2.2
  obtain ⟨B, jb, c1, k, hv, hj, hcl, le, e1⟩ := wr_368 (X := X) (d := d + 35) (G := G) (A := A) (j := j) (cc := cc) (n := (scN X (i + 1))) (R := (A 264)) (Q := Q) g0 g2 I.1 hQ (scN_lt _ _)
  have bh : ∀ q, 263 ≤ q → B q = A q := (frJ_hi k.2)
  have b4 : B 264 = A 264 := bh 264 (by decide)
  obtain ⟨o1, o2, o3, o4, o5, o6, o7⟩ := lw_o I bh (hj 274 (by decide))
  obtain ⟨C, e2, m⟩ := r_cost (X := X) (d := d + 35) (G := G) (A := B) (j := jb) (cc := c1) (n := (scN X (i + 1))) g1 (by rw [b4]; exact o1) o3 o4 (scN_lt _ _)
  rw [b4] at e2 m
  have ec : (if 7 < (scN X (i + 1)) then 1 else 0) = (spS 7 (scN X (i + 1)) ((A 264) 6)).1 := by
    unfold spS
    (repeat' split) <;> first | rfl | omega | contradiction
  have el : (if 7 < (scN X (i + 1)) then 0 else A 264 6) = (spS 7 (scN X (i + 1)) ((A 264) 6)).2 := by
    unfold spS
    (repeat' split) <;> first | rfl | omega | contradiction
  rw [ec] at m
  rw [el] at e2
  have hI : ivI C jb := ivI_a I hQ hq (fun _ => eqV_se (by decide)) k.1 k.2 m.1 m.2.1 m.2.2.1
  have m0 := m.2.2.2
  have e3 := r_thrown (X := X) (d := d + 39) (G := G) (A := C) (j := jb) (cc := c1) g1
  rw [m0] at e3
  have j9 : jb 279 = jb 279 := rfl
  have LC : nI (spS 7 (scN X (i + 1)) ((A 264) 6)).1 = 0 → lg_cmp (jb 279 0) (Int32.toInt64 (nI (spS 7 (scN X (i + 1)) ((A 264) 6)).2)) = 0 := fun z => by
    have z0 : (spS 7 (scN X (i + 1)) ((A 264) 6)).1 = 0 := by rw [← nI_0, nn_eq] at z; omega
    rw [j9, hv z0]; exact lcs _
  have KK := K C jb c1 (some (.int (nI (spS 7 (scN X (i + 1)) ((A 264) 6)).1))) (some (.int (nI (spS 7 (scN X (i + 1)) ((A 264) 6)).2))) hI hcl
  exact (pv_aload_n rfl rfl (pv_xload_n rfl rfl (pv_iload rfl rfl (pn_iconst (u := 1) rfl rfl (pn_iadd rfl (pn_scN rfl (by omega) hX (pv_aload_n rfl rfl (pv_stat rfl rfl rfl rfl rfl rfl rfl rfl e1 (pv_istore rfl rfl (pv_aload_n rfl rfl (pv_xload_n rfl rfl (pv_iload rfl rfl (pn_iconst (u := 1) rfl rfl (pn_iadd rfl (pn_scN rfl (by omega) hX (pv_virt rfl rfl rfl rfl rfl (oX12_k g1) rfl rfl rfl e2 (pv_istore rfl rfl (pv_aload_n rfl rfl (pv_virt rfl rfl rfl rfl rfl (oX12_k g1) rfl rfl rfl e3 (pv_iload rfl rfl (pv_ic_eq rfl (fun _ => (pv_iload rfl rfl (pv_if_ne rfl (fun _ => (pv_goto rfl KK)) (fun z => have lc := LC z; (pv_aload_n rfl rfl (pn_iconst (u := 0) rfl rfl (pn_lald rfl g2 (by decide) (by decide) (pv_iload rfl rfl (pv_i2l rfl (pv_lcmp rfl (pv_if_eq rfl (fun _ => (pv_goto rfl KK)) (fun e => absurd lc e)))))))))))) (fun e => absurd rfl e))))))))))))))))))))))
theorem lw_c21 {X : gv_X} {d : Nat} {G : gv_Sh} {A : Nat → Nat → Nat} {j : Nat → Nat → Int64} {cc : gv_Rs} {P : gv_O × gv_S → Prop} {i : Nat} {l5 l6 : Option Value} (hg : ivG G) (hX : X.2 < 2147483648) (hi : i + 6 ≤ X.2) (I : ivI A j) (K : ivK X d G P i cc) : EvP X (d + 40) gvm_385 1493 [some (.retAddr 0), some (.ref 0), some (.ref 263), some (.ref 279), some (.int (nI i)), l5, l6] [] (G, (mI A, j), cc) P := by
  obtain ⟨g0, g1, g2, g3, g4⟩ := hg
  obtain ⟨Q, hQ, hq⟩ := I.2.2.2.2.2
  obtain ⟨B, jb, c1, k, hv, hj, hcl, le, e1⟩ := wr_369 (X := X) (d := d + 35) (G := G) (A := A) (j := j) (cc := cc) (n := (scN X (i + 1))) (R := (A 264)) (Q := Q) g0 g2 I.1 hQ (scN_lt _ _)
  have bh : ∀ q, 263 ≤ q → B q = A q := (frJ_hi k.2)
  have b4 : B 264 = A 264 := bh 264 (by decide)
  obtain ⟨o1, o2, o3, o4, o5, o6, o7⟩ := lw_o I bh (hj 274 (by decide))
  obtain ⟨C, e2, m⟩ := r_alarm (X := X) (d := d + 35) (G := G) (A := B) (j := jb) (cc := c1) (n := (scN X (i + 1))) g1 (by rw [b4]; exact o1) o3 o4 (scN_lt _ _)
  rw [b4] at e2 m
  have ec : (if 100 < (scN X (i + 1)) then 1 else 0) = (spS 100 (scN X (i + 1)) ((A 264) 7)).1 := by
    unfold spS
    (repeat' split) <;> first | rfl | omega | contradiction
  have el : (if 100 < (scN X (i + 1)) then 0 else A 264 7) = (spS 100 (scN X (i + 1)) ((A 264) 7)).2 := by
    unfold spS
    (repeat' split) <;> first | rfl | omega | contradiction
  rw [ec] at m
  rw [el] at e2
  have hI : ivI C jb := ivI_a I hQ hq (fun _ => eqV_se (by decide)) k.1 k.2 m.1 m.2.1 m.2.2.1
  have m0 := m.2.2.2
  have e3 := r_thrown (X := X) (d := d + 39) (G := G) (A := C) (j := jb) (cc := c1) g1
  rw [m0] at e3
  have j9 : jb 279 = jb 279 := rfl
  have LC : nI (spS 100 (scN X (i + 1)) ((A 264) 7)).1 = 0 → lg_cmp (jb 279 0) (Int32.toInt64 (nI (spS 100 (scN X (i + 1)) ((A 264) 7)).2)) = 0 := fun z => by
    have z0 : (spS 100 (scN X (i + 1)) ((A 264) 7)).1 = 0 := by rw [← nI_0, nn_eq] at z; omega
    rw [j9, hv z0]; exact lcs _
  have KK := K C jb c1 (some (.int (nI (spS 100 (scN X (i + 1)) ((A 264) 7)).1))) (some (.int (nI (spS 100 (scN X (i + 1)) ((A 264) 7)).2))) hI hcl
  exact (pv_aload_n rfl rfl (pv_xload_n rfl rfl (pv_iload rfl rfl (pn_iconst (u := 1) rfl rfl (pn_iadd rfl (pn_scN rfl (by omega) hX (pv_aload_n rfl rfl (pv_stat rfl rfl rfl rfl rfl rfl rfl rfl e1 (pv_istore rfl rfl (pv_aload_n rfl rfl (pv_xload_n rfl rfl (pv_iload rfl rfl (pn_iconst (u := 1) rfl rfl (pn_iadd rfl (pn_scN rfl (by omega) hX (pv_virt rfl rfl rfl rfl rfl (oX12_k g1) rfl rfl rfl e2 (pv_istore rfl rfl (pv_aload_n rfl rfl (pv_virt rfl rfl rfl rfl rfl (oX12_k g1) rfl rfl rfl e3 (pv_iload rfl rfl (pv_ic_eq rfl (fun _ => (pv_iload rfl rfl (pv_if_ne rfl (fun _ => (pv_goto rfl KK)) (fun z => have lc := LC z; (pv_aload_n rfl rfl (pn_iconst (u := 0) rfl rfl (pn_lald rfl g2 (by decide) (by decide) (pv_iload rfl rfl (pv_i2l rfl (pv_lcmp rfl (pv_if_eq rfl (fun _ => (pv_goto rfl KK)) (fun e => absurd lc e)))))))))))) (fun e => absurd rfl e))))))))))))))))))))))
