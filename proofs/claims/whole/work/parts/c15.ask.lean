/-! the class: what is asked, first part -/
theorem w122 {X : gv_X} {d : Nat} {G : gv_Sh} {A : Nat → Nat → Nat} {j : Nat → Nat → Int64} {cc : gv_Rs} {P : gv_O × gv_S → Prop} {p : Nat} {h : Nat} {R : Nat → Nat} (hp0 : oX11 G 0) (H : (p < 4294967296) ∧ ((A 3 0 ≤ 8) ∧ (((p < A 3 0) → (h < 4294967296) ∧ (((h ≤ 12) → (okW R) ∧ ((rO A 3 R) ∧ ((3 + 6 ≤ 54) ∧ ((knI A R) ∧ ((∀ A1v3 : Nat → Nat → Nat, ((stT A1v3 R) ∧ (knI A1v3 R) ∧ (frZ A A1v3)) → EvP X (d + 6) gvm_122 29 [some (.ref 0), some (.int (nI p)), some (.int (nI h))] [] (G, (mI A1v3, j), cc) P)))))) ∧ ((¬ h ≤ 12) → P (.inr 3, gv_ex (G, (mI A, j), cc))))) ∧ ((¬ p < A 3 0) → P (.inr 1, gv_ex (G, (mI A, j), cc)))))) : EvP X (d + 6) gvm_122 0 (gv_enter [.ref 0, .int (nI p), .int (nI h)] 3) [] (G, (mI A, j), cc) P :=
  (pv_aload_n rfl rfl   (pv_iload_n rfl rfl   (Or.elim (Decidable.em (p < A 3 0)) (fun c1 => pv_virt rfl rfl rfl rfl rfl (oX11_k hp0) rfl rfl rfl (c_needOp (p := p) (A := A) hp0 H.1 H.2.1 c1) (pv_aload_n rfl rfl   (pv_iload_n rfl rfl   (pn_bipush rfl rfl   (Or.elim (Decidable.em (h ≤ 12)) (fun c2 => pv_virt rfl rfl rfl rfl rfl (oX11_k hp0) rfl rfl rfl (c_needWhat (n := h) (m := 12) (A := A) hp0 (H.2.2.1 c1).1 (by decide) c2) (pv_aload_n rfl rfl   (pv_getP rfl rfl (oX11_k hp0) (oX11_7 hp0)   (pv_getP rfl rfl (oX4_k (oX11_7c hp0)) (oX4_1 (oX11_7c hp0))   (pv_aload_n rfl rfl   (pv_getP rfl rfl (oX11_k hp0) (oX11_3 hp0)   (pv_getP rfl rfl (oX10_k (oX11_3c hp0)) (oX10_0 (oX11_3c hp0))   (match (c_learn (R := R) (A := A) (X := X) (d := d + 0) (G := G) (j := j) (cc := cc) (oX4_1c (oX11_7c hp0)) (oX10_0c (oX11_3c hp0)) ((H.2.2.1 c1).2.1 c2).1 ((H.2.2.1 c1).2.1 c2).2.1 ((H.2.2.1 c1).2.1 c2).2.2.1 ((H.2.2.1 c1).2.1 c2).2.2.2.1 ) with | ⟨A1v3, e3x26, h3⟩ => pv_virt rfl rfl rfl rfl rfl (oX9_k (oX4_1c (oX11_7c hp0))) rfl rfl rfl e3x26 (((H.2.2.1 c1).2.1 c2).2.2.2.2 A1v3 h3))))))))) (fun c2 => pv_virtT rfl rfl rfl rfl rfl (oX11_k hp0) rfl rfl rfl rfl (c_needWhat_x (n := h) (m := 12) (A := A) hp0 (H.2.2.1 c1).1 (by decide) c2) ((H.2.2.1 c1).2.2 c2))))))) (fun c1 => pv_virtT rfl rfl rfl rfl rfl (oX11_k hp0) rfl rfl rfl rfl (c_needOp_x (p := p) (A := A) hp0 H.1 H.2.1 c1) (H.2.2.2 c1)))))
theorem w122_29 {X : gv_X} {d : Nat} {G : gv_Sh} {A : Nat → Nat → Nat} {j : Nat → Nat → Int64} {cc : gv_Rs} {P : gv_O × gv_S → Prop} {p : Nat} {h : Nat} {R : Nat → Nat} (hp0 : oX11 G 0) (H : (h < 4294967296) ∧ ((h = 0 → (p < 4294967296) ∧ ((A 3 0 ≤ 8) ∧ (P (.inl (some (.int (nI (if p < A 3 0 then A (3 + 1) p else 0)))), (G, (mI A, j), cc))))) ∧ (h = 1 → (p < 4294967296) ∧ ((A 3 0 ≤ 8) ∧ ((∀ z, z < A 3 0 → A (3 + 4) z ≤ 1) ∧ (((¬ (p < A 3 0 ∧ A (3 + 4) p = 1)) → P (.inl (some (.int (nI 0))), (G, (mI A, j), cc))) ∧ ((p < A 3 0 ∧ A (3 + 4) p = 1) → P (.inl (some (.int (nI 1))), (G, (mI A, j), cc))))))) ∧ (h = 2 → (p < 4294967296) ∧ ((A 3 0 ≤ 8) ∧ ((∀ z, z < A 3 0 → A (3 + 5) z ≤ 1) ∧ (((¬ (p < A 3 0 ∧ A (3 + 5) p = 1)) → P (.inl (some (.int (nI 0))), (G, (mI A, j), cc))) ∧ ((p < A 3 0 ∧ A (3 + 5) p = 1) → P (.inl (some (.int (nI 1))), (G, (mI A, j), cc))))))) ∧ (h = 3 → (cQ A R) ∧ ((p < R 0) ∧ (((¬ (¬ wit R p 0 = 4294967295)) → P (.inl (some (.int (nI 0))), (G, (mI A, j), cc))) ∧ ((¬ wit R p 0 = 4294967295) → P (.inl (some (.int (nI 1))), (G, (mI A, j), cc)))))) ∧ (h = 4 → (cQ A R) ∧ ((p < R 0) ∧ (((¬ (¬ wit R p 1 = 4294967295)) → P (.inl (some (.int (nI 0))), (G, (mI A, j), cc))) ∧ ((¬ wit R p 1 = 4294967295) → P (.inl (some (.int (nI 1))), (G, (mI A, j), cc)))))) ∧ (h = 5 → (cQ A R) ∧ ((p < R 0) ∧ (((¬ (¬ wit R p 2 = 4294967295)) → P (.inl (some (.int (nI 0))), (G, (mI A, j), cc))) ∧ ((¬ wit R p 2 = 4294967295) → P (.inl (some (.int (nI 1))), (G, (mI A, j), cc)))))) ∧ (h = 6 → (cQ A R) ∧ ((p < R 0) ∧ (((¬ (¬ wit R p 3 = 4294967295)) → P (.inl (some (.int (nI 0))), (G, (mI A, j), cc))) ∧ ((¬ wit R p 3 = 4294967295) → P (.inl (some (.int (nI 1))), (G, (mI A, j), cc)))))) ∧ (h = 7 → (cQ A R) ∧ ((p < R 0) ∧ (((¬ (¬ tbF R p % 8 = 0)) → P (.inl (some (.int (nI 0))), (G, (mI A, j), cc))) ∧ ((¬ tbF R p % 8 = 0) → P (.inl (some (.int (nI 1))), (G, (mI A, j), cc)))))) ∧ (h = 8 → (cQ A R) ∧ ((p < R 0) ∧ ((∀ A1v9 : Nat → Nat → Nat, ((cQ A1v9 R) ∧ (frK A A1v9) ∧ (∀ a, (a < 61 ∨ 63 < a) → A1v9 a = A a)) → P (.inl (some (.int (nI (R 6 + lsum R (tbF R p) p 0)))), (G, (mI A1v9, j), cc)))))) ∧ (h = 9 → (cQ A R) ∧ ((p < R 0) ∧ ((∀ A1v10 : Nat → Nat → Nat, ((cQ A1v10 R) ∧ (frK A A1v10) ∧ (∀ a, (a < 61 ∨ 63 < a) → A1v10 a = A a)) → P (.inl (some (.int (nI (lsum R (tbF R p) p 1)))), (G, (mI A1v10, j), cc)))))) ∧ (h = 10 → (cQ A R) ∧ ((p < R 0) ∧ ((∀ A1v11 : Nat → Nat → Nat, ((cQ A1v11 R) ∧ (frK A A1v11) ∧ (∀ a, (a < 61 ∨ 63 < a) → A1v11 a = A a)) → P (.inl (some (.int (nI (1 + lsum R (tbF R p) p 2)))), (G, (mI A1v11, j), cc)))))) ∧ (h = 11 → (p < 4294967296) ∧ ((A 2 2 ≤ 10) ∧ ((∀ k, k < A 2 2 → A (2 + 7) k < 4294967296) ∧ (P (.inl (some (.int (nI (cntN (fun k => decide (A (2 + 7) k = p)) (A 2 2))))), (G, (mI A, j), cc)))))) ∧ ((h < 0 ∨ 11 < h) → (cQ A R) ∧ ((p < R 0) ∧ (P (.inl (some (.int (nI (if R 3 = 0 then 0 else 100 * usN R p / R 3)))), (G, (mI A, j), cc))))))) : EvP X (d + 6) gvm_122 29 [some (.ref 0), some (.int (nI p)), some (.int (nI h))] [] (G, (mI A, j), cc) P :=
  (pv_iload_n rfl rfl   (Or.elim (Decidable.em (h = 0)) (fun c1e => (pn_tswl 0 92 rfl c1e (by decide) (by decide) rfl rfl (pv_aload_n rfl rfl   (pv_getP rfl rfl (oX11_k hp0) (oX11_3 hp0)   (pv_getP rfl rfl (oX10_k (oX11_3c hp0)) (oX10_0 (oX11_3c hp0))   (pv_iload_n rfl rfl   (pv_virt rfl rfl rfl rfl rfl (oX6_k (oX10_0c (oX11_3c hp0))) rfl rfl rfl (c_size (p := p) (A := A) (oX10_0c (oX11_3c hp0)) (H.2.1 c1e).1 (H.2.1 c1e).2.1 ) (pv_ireti rfl rfl (H.2.1 c1e).2.2)))))))) (fun c1n0 => (Or.elim (Decidable.em (h = 1)) (fun c1e => (pn_tswl 1 104 rfl c1e (by decide) (by decide) rfl rfl (pv_aload_n rfl rfl   (pv_getP rfl rfl (oX11_k hp0) (oX11_3 hp0)   (pv_getP rfl rfl (oX10_k (oX11_3c hp0)) (oX10_0 (oX11_3c hp0))   (pv_iload_n rfl rfl   (pv_virt rfl rfl rfl rfl rfl (oX6_k (oX10_0c (oX11_3c hp0))) rfl rfl rfl (c_isGuarded (p := p) (A := A) (oX10_0c (oX11_3c hp0)) (H.2.2.1 c1e).1 (H.2.2.1 c1e).2.1 (H.2.2.1 c1e).2.2.1 ) (pv_if_eq_dc rfl  (fun c2 => (pn_iconst rfl rfl   (pv_ireti rfl rfl ((H.2.2.1 c1e).2.2.2.1 c2)))) (fun c2 => (pn_iconst rfl rfl   (pv_goto rfl (pv_ireti rfl rfl ((H.2.2.1 c1e).2.2.2.2 c2))))))))))))) (fun c1n1 => (Or.elim (Decidable.em (h = 2)) (fun c1e => (pn_tswl 2 124 rfl c1e (by decide) (by decide) rfl rfl (pv_aload_n rfl rfl   (pv_getP rfl rfl (oX11_k hp0) (oX11_3 hp0)   (pv_getP rfl rfl (oX10_k (oX11_3c hp0)) (oX10_0 (oX11_3c hp0))   (pv_iload_n rfl rfl   (pv_virt rfl rfl rfl rfl rfl (oX6_k (oX10_0c (oX11_3c hp0))) rfl rfl rfl (c_isPatched (p := p) (A := A) (oX10_0c (oX11_3c hp0)) (H.2.2.2.1 c1e).1 (H.2.2.2.1 c1e).2.1 (H.2.2.2.1 c1e).2.2.1 ) (pv_if_eq_dc rfl  (fun c3 => (pn_iconst rfl rfl   (pv_ireti rfl rfl ((H.2.2.2.1 c1e).2.2.2.1 c3)))) (fun c3 => (pn_iconst rfl rfl   (pv_goto rfl (pv_ireti rfl rfl ((H.2.2.2.1 c1e).2.2.2.2 c3))))))))))))) (fun c1n2 => (Or.elim (Decidable.em (h = 3)) (fun c1e => (pn_tswl 3 144 rfl c1e (by decide) (by decide) rfl rfl (pv_aload_n rfl rfl   (pv_iload_n rfl rfl   (pn_iconst rfl rfl   (pv_virt rfl rfl rfl rfl rfl (oX11_k hp0) rfl rfl rfl (c_gshows (p := p) (h := 0) (R := R) (A := A) hp0 (H.2.2.2.2.1 c1e).1 (H.2.2.2.2.1 c1e).2.1 (by decide) ) (pv_if_eq_dc rfl  (fun c4 => (pn_iconst rfl rfl   (pv_ireti rfl rfl ((H.2.2.2.2.1 c1e).2.2.1 c4)))) (fun c4 => (pn_iconst rfl rfl   (pv_goto rfl (pv_ireti rfl rfl ((H.2.2.2.2.1 c1e).2.2.2 c4)))))))))))) (fun c1n3 => (Or.elim (Decidable.em (h = 4)) (fun c1e => (pn_tswl 4 159 rfl c1e (by decide) (by decide) rfl rfl (pv_aload_n rfl rfl   (pv_iload_n rfl rfl   (pn_iconst rfl rfl   (pv_virt rfl rfl rfl rfl rfl (oX11_k hp0) rfl rfl rfl (c_gshows (p := p) (h := 1) (R := R) (A := A) hp0 (H.2.2.2.2.2.1 c1e).1 (H.2.2.2.2.2.1 c1e).2.1 (by decide) ) (pv_if_eq_dc rfl  (fun c5 => (pn_iconst rfl rfl   (pv_ireti rfl rfl ((H.2.2.2.2.2.1 c1e).2.2.1 c5)))) (fun c5 => (pn_iconst rfl rfl   (pv_goto rfl (pv_ireti rfl rfl ((H.2.2.2.2.2.1 c1e).2.2.2 c5)))))))))))) (fun c1n4 => (Or.elim (Decidable.em (h = 5)) (fun c1e => (pn_tswl 5 174 rfl c1e (by decide) (by decide) rfl rfl (pv_aload_n rfl rfl   (pv_iload_n rfl rfl   (pn_iconst rfl rfl   (pv_virt rfl rfl rfl rfl rfl (oX11_k hp0) rfl rfl rfl (c_gshows (p := p) (h := 2) (R := R) (A := A) hp0 (H.2.2.2.2.2.2.1 c1e).1 (H.2.2.2.2.2.2.1 c1e).2.1 (by decide) ) (pv_if_eq_dc rfl  (fun c6 => (pn_iconst rfl rfl   (pv_ireti rfl rfl ((H.2.2.2.2.2.2.1 c1e).2.2.1 c6)))) (fun c6 => (pn_iconst rfl rfl   (pv_goto rfl (pv_ireti rfl rfl ((H.2.2.2.2.2.2.1 c1e).2.2.2 c6)))))))))))) (fun c1n5 => (Or.elim (Decidable.em (h = 6)) (fun c1e => (pn_tswl 6 189 rfl c1e (by decide) (by decide) rfl rfl (pv_aload_n rfl rfl   (pv_iload_n rfl rfl   (pn_iconst rfl rfl   (pv_virt rfl rfl rfl rfl rfl (oX11_k hp0) rfl rfl rfl (c_gshows (p := p) (h := 3) (R := R) (A := A) hp0 (H.2.2.2.2.2.2.2.1 c1e).1 (H.2.2.2.2.2.2.2.1 c1e).2.1 (by decide) ) (pv_if_eq_dc rfl  (fun c7 => (pn_iconst rfl rfl   (pv_ireti rfl rfl ((H.2.2.2.2.2.2.2.1 c1e).2.2.1 c7)))) (fun c7 => (pn_iconst rfl rfl   (pv_goto rfl (pv_ireti rfl rfl ((H.2.2.2.2.2.2.2.1 c1e).2.2.2 c7)))))))))))) (fun c1n6 => (Or.elim (Decidable.em (h = 7)) (fun c1e => (pn_tswl 7 204 rfl c1e (by decide) (by decide) rfl rfl (pv_aload_n rfl rfl   (pv_iload_n rfl rfl   (pv_virt rfl rfl rfl rfl rfl (oX11_k hp0) rfl rfl rfl (c_gisSens (p := p) (R := R) (A := A) hp0 (H.2.2.2.2.2.2.2.2.1 c1e).1 (H.2.2.2.2.2.2.2.2.1 c1e).2.1 ) (pv_if_eq_dc rfl  (fun c8 => (pn_iconst rfl rfl   (pv_ireti rfl rfl ((H.2.2.2.2.2.2.2.2.1 c1e).2.2.1 c8)))) (fun c8 => (pn_iconst rfl rfl   (pv_goto rfl (pv_ireti rfl rfl ((H.2.2.2.2.2.2.2.2.1 c1e).2.2.2 c8))))))))))) (fun c1n7 => (Or.elim (Decidable.em (h = 8)) (fun c1e => (pn_tswl 8 218 rfl c1e (by decide) (by decide) rfl rfl (pv_aload_n rfl rfl   (pv_iload_n rfl rfl   (match (c_emul (p := p) (R := R) (A := A) (X := X) (d := d + 1) (G := G) (j := j) (cc := cc) hp0 (H.2.2.2.2.2.2.2.2.2.1 c1e).1 (H.2.2.2.2.2.2.2.2.2.1 c1e).2.1 ) with | ⟨A1v9, e9x220, h9⟩ => pv_virt rfl rfl rfl rfl rfl (oX11_k hp0) rfl rfl rfl e9x220 (pv_ireti rfl rfl ((H.2.2.2.2.2.2.2.2.2.1 c1e).2.2 A1v9 h9))))))) (fun c1n8 => (Or.elim (Decidable.em (h = 9)) (fun c1e => (pn_tswl 9 224 rfl c1e (by decide) (by decide) rfl rfl (pv_aload_n rfl rfl   (pv_iload_n rfl rfl   (match (c_blame (p := p) (R := R) (A := A) (X := X) (d := d + 1) (G := G) (j := j) (cc := cc) hp0 (H.2.2.2.2.2.2.2.2.2.2.1 c1e).1 (H.2.2.2.2.2.2.2.2.2.2.1 c1e).2.1 ) with | ⟨A1v10, e10x226, h10⟩ => pv_virt rfl rfl rfl rfl rfl (oX11_k hp0) rfl rfl rfl e10x226 (pv_ireti rfl rfl ((H.2.2.2.2.2.2.2.2.2.2.1 c1e).2.2 A1v10 h10))))))) (fun c1n9 => (Or.elim (Decidable.em (h = 10)) (fun c1e => (pn_tswl 10 230 rfl c1e (by decide) (by decide) rfl rfl (pv_aload_n rfl rfl   (pv_iload_n rfl rfl   (match (c_worth (p := p) (R := R) (A := A) (X := X) (d := d + 1) (G := G) (j := j) (cc := cc) hp0 (H.2.2.2.2.2.2.2.2.2.2.2.1 c1e).1 (H.2.2.2.2.2.2.2.2.2.2.2.1 c1e).2.1 ) with | ⟨A1v11, e11x232, h11⟩ => pv_virt rfl rfl rfl rfl rfl (oX11_k hp0) rfl rfl rfl e11x232 (pv_ireti rfl rfl ((H.2.2.2.2.2.2.2.2.2.2.2.1 c1e).2.2 A1v11 h11))))))) (fun c1n10 => (Or.elim (Decidable.em (h = 11)) (fun c1e => (pn_tswl 11 236 rfl c1e (by decide) (by decide) rfl rfl (pv_aload_n rfl rfl   (pv_getP rfl rfl (oX11_k hp0) (oX11_3 hp0)   (pv_iload_n rfl rfl   (pv_virt rfl rfl rfl rfl rfl (oX10_k (oX11_3c hp0)) rfl rfl rfl (c_usesOf (p := p) (A := A) (oX11_3c hp0) (H.2.2.2.2.2.2.2.2.2.2.2.2.1 c1e).1 (H.2.2.2.2.2.2.2.2.2.2.2.2.1 c1e).2.1 (H.2.2.2.2.2.2.2.2.2.2.2.2.1 c1e).2.2.1 ) (pv_ireti rfl rfl (H.2.2.2.2.2.2.2.2.2.2.2.2.1 c1e).2.2.2))))))) (fun c1n11 => (have c1d : h < 0 ∨ 11 < h := (by omega); pn_tswlD 0 11 245 rfl rfl rfl (by decide) H.1 c1d rfl (pv_aload_n rfl rfl   (pv_iload_n rfl rfl   (pv_virt rfl rfl rfl rfl rfl (oX11_k hp0) rfl rfl rfl (c_share (p := p) (R := R) (A := A) hp0 (H.2.2.2.2.2.2.2.2.2.2.2.2.2 c1d).1 (H.2.2.2.2.2.2.2.2.2.2.2.2.2 c1d).2.1 ) (pv_ireti rfl rfl (H.2.2.2.2.2.2.2.2.2.2.2.2.2 c1d).2.2))))))))))))))))))))))))))))))
theorem c_op_p {X : gv_X} {d : Nat} {G : gv_Sh} {A : Nat → Nat → Nat} {j : Nat → Nat → Int64} {cc : gv_Rs} {P : gv_O × gv_S → Prop} {p : Nat} {h : Nat} {R : Nat → Nat} (hp0 : oX11 G 0) (p0 : cK A R) (p1 : p < 4294967296) (p2 : h < 4294967296) (hP : ∀ A1 : Nat → Nat → Nat, (cK A1 R) ∧ (frK A A1) → P (oc (fun c => if c = 1 then 1 else 3) (spOp R p h).1 (spOp R p h).2 (G, (mI A1, j), cc))) : EvP X (d + 6) gvm_122 0 (gv_enter [.ref 0, .int (nI p), .int (nI h)] 3) [] (G, (mI A, j), cc) P := by
  have ok : ∀ B x, cK B R ∧ frK A B → spOp R p h = (0, x) → P (.inl (some (.int (nI x))), (G, (mI B, j), cc)) := fun B x h1 h3 => by
    have := hP B h1
    rw [h3] at this
    exact this
  have no1 : ∀ B, cK B R ∧ frK A B → spOp R p h = (1, 0) → P (.inr 1, gv_ex (G, (mI B, j), cc)) := fun B h1 h3 => by
    have := hP B h1
    rw [h3] at this
    exact this
  have no2 : ∀ B, cK B R ∧ frK A B → spOp R p h = (2, 0) → P (.inr 3, gv_ex (G, (mI B, j), cc)) := fun B h1 h3 => by
    have := hP B h1
    rw [h3] at this
    exact this
  have n := okW_n p0.1
  have ro : rO A 3 R := p0.2.1.1
  have e0 : A 3 0 = R 0 := ro.1
  have q1 := rO_n ro p0.1
  refine w122 (R := R) hp0 ⟨p1, q1, fun d1 => ⟨p2, fun d2 => ⟨p0.1, ro, by decide, p0.2.2.1, fun B h3 => ?_⟩, fun d2 => no2 A ⟨p0, frK_rf A⟩ (by unfold spOp; rw [if_neg (by omega), if_pos (by omega)])⟩, fun d1 => no1 A ⟨p0, frK_rf A⟩ (by unfold spOp; rw [if_pos (by omega)])⟩
  obtain ⟨hQ, hf⟩ := cK_Z p0 h3.1 h3.2.1 h3.2.2
  have hK := cQ_K hQ
  have r1 : rO B 3 R := hQ.2.1.1
  have p1' : p < R 0 := by omega
  have hp : ¬ R 0 ≤ p := by omega
  have s1 := rO_n r1 p0.1
  have s2 := rO_g r1 p0.1
  have s3 := rO_p r1 p0.1
  have s4 := rP_b hQ.2.1.2.1 p0.1
  obtain ⟨b0, b1, b2, b3, b4⟩ := tbF_b R p
  have og := okW_o p0.1 (p := p) (by omega)
  refine w122_29 (R := R) hp0  ⟨by (first | assumption | exact s4.1 | exact s4.2 | omega), ⟨fun c1 => ⟨by (first | assumption | exact s4.1 | exact s4.2 | omega), ⟨by (first | assumption | exact s4.1 | exact s4.2 | omega), ?_⟩⟩, fun c1 => ⟨by (first | assumption | exact s4.1 | exact s4.2 | omega), ⟨by (first | assumption | exact s4.1 | exact s4.2 | omega), ⟨by (first | assumption | exact s4.1 | exact s4.2 | omega), ⟨fun c2 => ?_, fun c2 => ?_⟩⟩⟩⟩, fun c1 => ⟨by (first | assumption | exact s4.1 | exact s4.2 | omega), ⟨by (first | assumption | exact s4.1 | exact s4.2 | omega), ⟨by (first | assumption | exact s4.1 | exact s4.2 | omega), ⟨fun c3 => ?_, fun c3 => ?_⟩⟩⟩⟩, fun c1 => ⟨by (first | assumption | exact s4.1 | exact s4.2 | omega), ⟨by (first | assumption | exact s4.1 | exact s4.2 | omega), ⟨fun c4 => ?_, fun c4 => ?_⟩⟩⟩, fun c1 => ⟨by (first | assumption | exact s4.1 | exact s4.2 | omega), ⟨by (first | assumption | exact s4.1 | exact s4.2 | omega), ⟨fun c5 => ?_, fun c5 => ?_⟩⟩⟩, fun c1 => ⟨by (first | assumption | exact s4.1 | exact s4.2 | omega), ⟨by (first | assumption | exact s4.1 | exact s4.2 | omega), ⟨fun c6 => ?_, fun c6 => ?_⟩⟩⟩, fun c1 => ⟨by (first | assumption | exact s4.1 | exact s4.2 | omega), ⟨by (first | assumption | exact s4.1 | exact s4.2 | omega), ⟨fun c7 => ?_, fun c7 => ?_⟩⟩⟩, fun c1 => ⟨by (first | assumption | exact s4.1 | exact s4.2 | omega), ⟨by (first | assumption | exact s4.1 | exact s4.2 | omega), ⟨fun c8 => ?_, fun c8 => ?_⟩⟩⟩, fun c1 => ⟨by (first | assumption | exact s4.1 | exact s4.2 | omega), ⟨by (first | assumption | exact s4.1 | exact s4.2 | omega), (fun A1v9 h9 => ?_)⟩⟩, fun c1 => ⟨by (first | assumption | exact s4.1 | exact s4.2 | omega), ⟨by (first | assumption | exact s4.1 | exact s4.2 | omega), (fun A1v10 h10 => ?_)⟩⟩, fun c1 => ⟨by (first | assumption | exact s4.1 | exact s4.2 | omega), ⟨by (first | assumption | exact s4.1 | exact s4.2 | omega), (fun A1v11 h11 => ?_)⟩⟩, fun c1 => ⟨by (first | assumption | exact s4.1 | exact s4.2 | omega), ⟨by (first | assumption | exact s4.1 | exact s4.2 | omega), ⟨by (first | assumption | exact s4.1 | exact s4.2 | omega), ?_⟩⟩⟩, fun c1 => ⟨by (first | assumption | exact s4.1 | exact s4.2 | omega), ⟨by (first | assumption | exact s4.1 | exact s4.2 | omega), ?_⟩⟩⟩⟩
  · subst c1
    rw [rO_sz r1 p1']
    exact ok B _ ⟨hK, hf⟩ (by unfold spOp; rw [if_neg hp, if_neg (by decide)]; rfl)
  · subst c1
    exact ok B 0 ⟨hK, hf⟩ (by unfold spOp; rw [if_neg hp, if_neg (by decide)]; show (0, R (30 + 9 * p + 1)) = (0, 0); rw [(show R (30 + 9 * p + 1) = 0 from by have := _root_.mt (rO_gd r1 p1').mpr c2; omega)])
  · subst c1
    exact ok B 1 ⟨hK, hf⟩ (by unfold spOp; rw [if_neg hp, if_neg (by decide)]; show (0, R (30 + 9 * p + 1)) = (0, 1); rw [(show R (30 + 9 * p + 1) = 1 from (rO_gd r1 p1').mp c2)])
  · subst c1
    exact ok B 0 ⟨hK, hf⟩ (by unfold spOp; rw [if_neg hp, if_neg (by decide)]; show (0, R (30 + 9 * p + 2)) = (0, 0); rw [(show R (30 + 9 * p + 2) = 0 from by have := _root_.mt (rO_pt r1 p1').mpr c3; omega)])
  · subst c1
    exact ok B 1 ⟨hK, hf⟩ (by unfold spOp; rw [if_neg hp, if_neg (by decide)]; show (0, R (30 + 9 * p + 2)) = (0, 1); rw [(show R (30 + 9 * p + 2) = 1 from (rO_pt r1 p1').mp c3)])
  · subst c1
    exact ok B 0 ⟨hK, hf⟩ (by unfold spOp; rw [if_neg hp, if_neg (by decide)]; show (0, tbF R p / 1 % 2) = (0, 0); rw [Nat.div_one, b0, if_pos (Decidable.not_not.mp c4)])
  · subst c1
    exact ok B 1 ⟨hK, hf⟩ (by unfold spOp; rw [if_neg hp, if_neg (by decide)]; show (0, tbF R p / 1 % 2) = (0, 1); rw [Nat.div_one, b0, if_neg c4])
  · subst c1
    exact ok B 0 ⟨hK, hf⟩ (by unfold spOp; rw [if_neg hp, if_neg (by decide)]; show (0, tbF R p / 2 % 2) = (0, 0); rw [b1, if_pos (Decidable.not_not.mp c5)])
  · subst c1
    exact ok B 1 ⟨hK, hf⟩ (by unfold spOp; rw [if_neg hp, if_neg (by decide)]; show (0, tbF R p / 2 % 2) = (0, 1); rw [b1, if_neg c5])
  · subst c1
    exact ok B 0 ⟨hK, hf⟩ (by unfold spOp; rw [if_neg hp, if_neg (by decide)]; show (0, tbF R p / 4 % 2) = (0, 0); rw [b2, if_pos (Decidable.not_not.mp c6)])
  · subst c1
    exact ok B 1 ⟨hK, hf⟩ (by unfold spOp; rw [if_neg hp, if_neg (by decide)]; show (0, tbF R p / 4 % 2) = (0, 1); rw [b2, if_neg c6])
  · subst c1
    exact ok B 0 ⟨hK, hf⟩ (by unfold spOp; rw [if_neg hp, if_neg (by decide)]; show (0, tbF R p / 8 % 2) = (0, 0); rw [b3, if_pos (Decidable.not_not.mp c7)])
  · subst c1
    exact ok B 1 ⟨hK, hf⟩ (by unfold spOp; rw [if_neg hp, if_neg (by decide)]; show (0, tbF R p / 8 % 2) = (0, 1); rw [b3, if_neg c7])
  · subst c1
    exact ok B 0 ⟨hK, hf⟩ (by unfold spOp; rw [if_neg hp, if_neg (by decide)]; show (0, if tbF R p % 8 = 0 then 0 else 1) = (0, 0); rw [if_pos (Decidable.not_not.mp c8)])
  · subst c1
    exact ok B 1 ⟨hK, hf⟩ (by unfold spOp; rw [if_neg hp, if_neg (by decide)]; show (0, if tbF R p % 8 = 0 then 0 else 1) = (0, 1); rw [if_neg c8])
  · subst c1
    exact ok _ _ ⟨cQ_K h9.1, frK_tr hf h9.2.1⟩ (by unfold spOp; rw [if_neg hp, if_neg (by decide)]; rfl)
  · subst c1
    exact ok _ _ ⟨cQ_K h10.1, frK_tr hf h10.2.1⟩ (by unfold spOp; rw [if_neg hp, if_neg (by decide)]; rfl)
  · subst c1
    exact ok _ _ ⟨cQ_K h11.1, frK_tr hf h11.2.1⟩ (by unfold spOp; rw [if_neg hp, if_neg (by decide)]; rfl)
  · subst c1
    rw [rP_us hQ.2.1.2.1 p]
    exact ok B _ ⟨hK, hf⟩ (by unfold spOp; rw [if_neg hp, if_neg (by decide)]; rfl)
  · obtain rfl : h = 12 := by omega
    exact ok B _ ⟨hK, hf⟩ (by unfold spOp; rw [if_neg hp, if_neg (by decide)]; rfl)
theorem w123 {X : gv_X} {d : Nat} {G : gv_Sh} {A : Nat → Nat → Nat} {j : Nat → Nat → Int64} {cc : gv_Rs} {P : gv_O × gv_S → Prop} {p : Nat} {k : Nat} {b : Bool} (hp0 : oX11 G 0) (H : (p < 4294967296) ∧ ((A 3 0 ≤ 8) ∧ (((p < A 3 0) → ((b = false) → (p < 4294967296) ∧ ((k < 4294967296) ∧ ((A 3 0 ≤ 8) ∧ ((∀ z, z < A 3 0 → A (3 + 1) z ≤ 3) ∧ (P (.inl (some (.int (nI (if p < A 3 0 ∧ k < A (3 + 1) p then A (3 + 2) (p * 3 + k) else 4294967295)))), (G, (mI A, j), cc))))))) ∧ ((b = true) → (p < 4294967296) ∧ ((k < 4294967296) ∧ ((A 3 0 ≤ 8) ∧ ((∀ z, z < A 3 0 → A (3 + 1) z ≤ 3) ∧ (P (.inl (some (.int (nI (if p < A 3 0 ∧ k < A (3 + 1) p then A (3 + 3) (p * 3 + k) else 4294967295)))), (G, (mI A, j), cc)))))))) ∧ ((¬ p < A 3 0) → P (.inr 1, gv_ex (G, (mI A, j), cc)))))) : EvP X (d + 2) gvm_123 0 (gv_enter [.ref 0, .int (nI p), .int (nI k), .int (zo b)] 4) [] (G, (mI A, j), cc) P :=
  (pv_aload_n rfl rfl   (pv_iload_n rfl rfl   (Or.elim (Decidable.em (p < A 3 0)) (fun c1 => pv_virt rfl rfl rfl rfl rfl (oX11_k hp0) rfl rfl rfl (c_needOp (p := p) (A := A) hp0 H.1 H.2.1 c1) (pv_iload_n rfl rfl   (pv_if_eq_zo rfl  (fun c2 => (pv_aload_n rfl rfl   (pv_getP rfl rfl (oX11_k hp0) (oX11_3 hp0)   (pv_getP rfl rfl (oX10_k (oX11_3c hp0)) (oX10_0 (oX11_3c hp0))   (pv_iload_n rfl rfl   (pv_iload_n rfl rfl   (pv_virt rfl rfl rfl rfl rfl (oX6_k (oX10_0c (oX11_3c hp0))) rfl rfl rfl (c_kindAt (p := p) (k := k) (A := A) (oX10_0c (oX11_3c hp0)) ((H.2.2.1 c1).1 c2).1 ((H.2.2.1 c1).1 c2).2.1 ((H.2.2.1 c1).1 c2).2.2.1 ((H.2.2.1 c1).1 c2).2.2.2.1 ) (pv_ireti rfl rfl ((H.2.2.1 c1).1 c2).2.2.2.2)))))))) (fun c2 => (pv_aload_n rfl rfl   (pv_getP rfl rfl (oX11_k hp0) (oX11_3 hp0)   (pv_getP rfl rfl (oX10_k (oX11_3c hp0)) (oX10_0 (oX11_3c hp0))   (pv_iload_n rfl rfl   (pv_iload_n rfl rfl   (pv_virt rfl rfl rfl rfl rfl (oX6_k (oX10_0c (oX11_3c hp0))) rfl rfl rfl (c_numberAt (p := p) (k := k) (A := A) (oX10_0c (oX11_3c hp0)) ((H.2.2.1 c1).2 c2).1 ((H.2.2.1 c1).2 c2).2.1 ((H.2.2.1 c1).2 c2).2.2.1 ((H.2.2.1 c1).2 c2).2.2.2.1 ) (pv_goto rfl (pv_ireti rfl rfl ((H.2.2.1 c1).2 c2).2.2.2.2)))))))))))) (fun c1 => pv_virtT rfl rfl rfl rfl rfl (oX11_k hp0) rfl rfl rfl rfl (c_needOp_x (p := p) (A := A) hp0 H.1 H.2.1 c1) (H.2.2.2 c1)))))
theorem c_micro_p {X : gv_X} {d : Nat} {G : gv_Sh} {A : Nat → Nat → Nat} {j : Nat → Nat → Int64} {cc : gv_Rs} {P : gv_O × gv_S → Prop} {p : Nat} {k : Nat} {b : Bool} {R : Nat → Nat} (hp0 : oX11 G 0) (p0 : cK A R) (p1 : p < 4294967296) (p2 : k < 4294967296) (hP : ∀ A1 : Nat → Nat → Nat, (cK A1 R) ∧ (frK A A1) → P (oc (fun _ => 1) (spMicro R p k b).1 (spMicro R p k b).2 (G, (mI A1, j), cc))) : EvP X (d + 2) gvm_123 0 (gv_enter [.ref 0, .int (nI p), .int (nI k), .int (zo b)] 4) [] (G, (mI A, j), cc) P := by
  have ok : ∀ B x, cK B R ∧ frK A B → spMicro R p k b = (0, x) → P (.inl (some (.int (nI x))), (G, (mI B, j), cc)) := fun B x h1 h3 => by
    have := hP B h1
    rw [h3] at this
    exact this
  have no1 : ∀ B, cK B R ∧ frK A B → spMicro R p k b = (1, 0) → P (.inr 1, gv_ex (G, (mI B, j), cc)) := fun B h1 h3 => by
    have := hP B h1
    rw [h3] at this
    exact this
  have ro : rO A 3 R := p0.2.1.1
  have e0 : A 3 0 = R 0 := ro.1
  have q1 := rO_n ro p0.1
  have q2 := rO_s ro p0.1
  have K : cK A R ∧ frK A A := ⟨p0, frK_rf A⟩
  refine w123 hp0 ⟨p1, q1, fun c1 => ⟨fun c2 => ⟨p1, p2, q1, q2, ?_⟩, fun c2 => ⟨p1, p2, q1, q2, ?_⟩⟩, fun c1 => no1 A K (by unfold spMicro; rw [if_pos (by omega)])⟩
  · refine ok A _ K ?_
    have hp : p < R 0 := by omega
    unfold spMicro
    rw [if_neg (by omega), c2]
    by_cases z : k < R (30 + 9 * p + 0)
    · rw [if_pos z, if_neg (by decide), rO_kd ro hp z]
    · rw [if_neg z, if_neg (fun y => z (by have := y.2; rw [(ro.2.1 p hp).1] at this; exact this))]
  · refine ok A _ K ?_
    have hp : p < R 0 := by omega
    unfold spMicro
    rw [if_neg (by omega), c2]
    by_cases z : k < R (30 + 9 * p + 0)
    · rw [if_pos z, if_pos rfl, rO_nu ro hp z]
    · rw [if_neg z, if_neg (fun y => z (by have := y.2; rw [(ro.2.1 p hp).1] at this; exact this))]
theorem w124 {X : gv_X} {d : Nat} {G : gv_Sh} {A : Nat → Nat → Nat} {j : Nat → Nat → Int64} {cc : gv_Rs} {P : gv_O × gv_S → Prop} {p : Nat} {h : Nat} {R : Nat → Nat} (hp0 : oX11 G 0) (H : (p < 4294967296) ∧ ((A 3 0 ≤ 8) ∧ (((p < A 3 0) → (h < 4294967296) ∧ (((h ≤ 3) → (okW R) ∧ ((rO A 3 R) ∧ ((3 + 6 ≤ 54) ∧ ((knI A R) ∧ ((∀ A1v3 : Nat → Nat → Nat, ((stT A1v3 R) ∧ (knI A1v3 R) ∧ (frZ A A1v3)) → (p < 8) ∧ ((h < 4) ∧ (P (.inl (some (.int (nI (A1v3 56 (p * 4 + h))))), (G, (mI A1v3, j), cc)))))))))) ∧ ((¬ h ≤ 3) → P (.inr 3, gv_ex (G, (mI A, j), cc))))) ∧ ((¬ p < A 3 0) → P (.inr 1, gv_ex (G, (mI A, j), cc)))))) : EvP X (d + 6) gvm_124 0 (gv_enter [.ref 0, .int (nI p), .int (nI h)] 3) [] (G, (mI A, j), cc) P :=
  (pv_aload_n rfl rfl   (pv_iload_n rfl rfl   (Or.elim (Decidable.em (p < A 3 0)) (fun c1 => pv_virt rfl rfl rfl rfl rfl (oX11_k hp0) rfl rfl rfl (c_needOp (p := p) (A := A) hp0 H.1 H.2.1 c1) (pv_aload_n rfl rfl   (pv_iload_n rfl rfl   (pn_iconst rfl rfl   (Or.elim (Decidable.em (h ≤ 3)) (fun c2 => pv_virt rfl rfl rfl rfl rfl (oX11_k hp0) rfl rfl rfl (c_needWhat (n := h) (m := 3) (A := A) hp0 (H.2.2.1 c1).1 (by decide) c2) (pv_aload_n rfl rfl   (pv_getP rfl rfl (oX11_k hp0) (oX11_7 hp0)   (pv_getP rfl rfl (oX4_k (oX11_7c hp0)) (oX4_1 (oX11_7c hp0))   (pv_aload_n rfl rfl   (pv_getP rfl rfl (oX11_k hp0) (oX11_3 hp0)   (pv_getP rfl rfl (oX10_k (oX11_3c hp0)) (oX10_0 (oX11_3c hp0))   (match (c_learn (R := R) (A := A) (X := X) (d := d + 0) (G := G) (j := j) (cc := cc) (oX4_1c (oX11_7c hp0)) (oX10_0c (oX11_3c hp0)) ((H.2.2.1 c1).2.1 c2).1 ((H.2.2.1 c1).2.1 c2).2.1 ((H.2.2.1 c1).2.1 c2).2.2.1 ((H.2.2.1 c1).2.1 c2).2.2.2.1 ) with | ⟨A1v3, e4x25, h3⟩ => pv_virt rfl rfl rfl rfl rfl (oX9_k (oX4_1c (oX11_7c hp0))) rfl rfl rfl e4x25 (pv_aload_n rfl rfl   (pv_getP rfl rfl (oX11_k hp0) (oX11_7 hp0)   (pv_getP rfl rfl (oX4_k (oX11_7c hp0)) (oX4_1 (oX11_7c hp0))   (pv_iload_n rfl rfl   (pv_iload_n rfl rfl   (pv_virt rfl rfl rfl rfl rfl (oX9_k (oX4_1c (oX11_7c hp0))) rfl rfl rfl (c_stateOf (p := p) (h := h) (A := A1v3) (oX4_1c (oX11_7c hp0)) (((H.2.2.1 c1).2.1 c2).2.2.2.2 A1v3 h3).1 (((H.2.2.1 c1).2.1 c2).2.2.2.2 A1v3 h3).2.1 ) (pv_ireti rfl rfl (((H.2.2.1 c1).2.1 c2).2.2.2.2 A1v3 h3).2.2))))))))))))))) (fun c2 => pv_virtT rfl rfl rfl rfl rfl (oX11_k hp0) rfl rfl rfl rfl (c_needWhat_x (n := h) (m := 3) (A := A) hp0 (H.2.2.1 c1).1 (by decide) c2) ((H.2.2.1 c1).2.2 c2))))))) (fun c1 => pv_virtT rfl rfl rfl rfl rfl (oX11_k hp0) rfl rfl rfl rfl (c_needOp_x (p := p) (A := A) hp0 H.1 H.2.1 c1) (H.2.2.2 c1)))))
theorem c_witness_p {X : gv_X} {d : Nat} {G : gv_Sh} {A : Nat → Nat → Nat} {j : Nat → Nat → Int64} {cc : gv_Rs} {P : gv_O × gv_S → Prop} {p : Nat} {h : Nat} {R : Nat → Nat} (hp0 : oX11 G 0) (p0 : cK A R) (p1 : p < 4294967296) (p2 : h < 4294967296) (hP : ∀ A1 : Nat → Nat → Nat, (cK A1 R) ∧ (frK A A1) → P (oc (fun c => if c = 1 then 1 else 3) (spWitness R p h).1 (spWitness R p h).2 (G, (mI A1, j), cc))) : EvP X (d + 6) gvm_124 0 (gv_enter [.ref 0, .int (nI p), .int (nI h)] 3) [] (G, (mI A, j), cc) P := by
  have ok : ∀ B x, cK B R ∧ frK A B → spWitness R p h = (0, x) → P (.inl (some (.int (nI x))), (G, (mI B, j), cc)) := fun B x h1 h3 => by
    have := hP B h1
    rw [h3] at this
    exact this
  have no1 : ∀ B, cK B R ∧ frK A B → spWitness R p h = (1, 0) → P (.inr 1, gv_ex (G, (mI B, j), cc)) := fun B h1 h3 => by
    have := hP B h1
    rw [h3] at this
    exact this
  have no2 : ∀ B, cK B R ∧ frK A B → spWitness R p h = (2, 0) → P (.inr 3, gv_ex (G, (mI B, j), cc)) := fun B h1 h3 => by
    have := hP B h1
    rw [h3] at this
    exact this
  have n := okW_n p0.1
  have ro : rO A 3 R := p0.2.1.1
  have e0 : A 3 0 = R 0 := ro.1
  refine w124 (R := R) hp0 ⟨p1, rO_n ro p0.1, fun c1 => ⟨p2, fun c2 => ⟨p0.1, ro, by decide, p0.2.2.1, fun B h3 => ⟨by omega, by omega, ?_⟩⟩, fun c2 => no2 A ⟨p0, frK_rf A⟩ (by unfold spWitness; rw [if_neg (by omega), if_pos (by omega)])⟩, fun c1 => no1 A ⟨p0, frK_rf A⟩ (by unfold spWitness; rw [if_pos (by omega)])⟩
  obtain ⟨hQ, hf⟩ := cK_Z p0 h3.1 h3.2.1 h3.2.2
  rw [h3.1 p h (by omega) (by omega)]
  exact ok B _ ⟨cQ_K hQ, hf⟩ (by unfold spWitness; rw [if_neg (by omega), if_neg (by omega)])
theorem w126 {X : gv_X} {d : Nat} {G : gv_Sh} {A : Nat → Nat → Nat} {j : Nat → Nat → Int64} {cc : gv_Rs} {P : gv_O × gv_S → Prop} {k : Nat} (hp0 : oX11 G 0) (H : (k < 4294967296) ∧ ((A 2 2 ≤ 10) ∧ (P (.inl (some (.int (nI (if k < A 2 2 then A (2 + 7) k else 4294967295)))), (G, (mI A, j), cc))))) : EvP X (d + 1) gvm_126 0 (gv_enter [.ref 0, .int (nI k)] 2) [] (G, (mI A, j), cc) P :=
  (pv_aload_n rfl rfl   (pv_getP rfl rfl (oX11_k hp0) (oX11_3 hp0)   (pv_iload_n rfl rfl   (pv_virt rfl rfl rfl rfl rfl (oX10_k (oX11_3c hp0)) rfl rfl rfl (c_opAt (c := k) (A := A) (oX11_3c hp0) H.1 H.2.1 ) (pv_ireti rfl rfl H.2.2)))))
theorem c_program_p {X : gv_X} {d : Nat} {G : gv_Sh} {A : Nat → Nat → Nat} {j : Nat → Nat → Int64} {cc : gv_Rs} {P : gv_O × gv_S → Prop} {k : Nat} {R : Nat → Nat} (hp0 : oX11 G 0) (p0 : cK A R) (p1 : k < 4294967296) (hP : P (.inl (some (.int (nI (spProgram R k)))), (G, (mI A, j), cc))) : EvP X (d + 1) gvm_126 0 (gv_enter [.ref 0, .int (nI k)] 2) [] (G, (mI A, j), cc) P := by
  refine w126 hp0 ⟨p1, (rP_b p0.2.1.2.1 p0.1).1, ?_⟩
  rw [rW_op p0.2.1]; exact hP
theorem c_program {X : gv_X} {d : Nat} {G : gv_Sh} {A : Nat → Nat → Nat} {j : Nat → Nat → Int64} {cc : gv_Rs} {k : Nat} {R : Nat → Nat} (hp0 : oX11 G 0) (p0 : cK A R) (p1 : k < 4294967296) : Ev X (d + 1) gvm_126 0 (gv_enter [.ref 0, .int (nI k)] 2) [] (G, (mI A, j), cc) (.inl (some (.int (nI (spProgram R k)))), (G, (mI A, j), cc)) := evp_det (c_program_p hp0 p0 p1 rfl)
theorem w127 {X : gv_X} {d : Nat} {G : gv_Sh} {A : Nat → Nat → Nat} {j : Nat → Nat → Int64} {cc : gv_Rs} {P : gv_O × gv_S → Prop} {c : Nat} (hp0 : oX11 G 0) (H : (c < 4294967296) ∧ (((c < 8) → ((c % 8) < 8) ∧ (P (.inl (some (.int (nI (A 10 (c % 8))))), (G, (mI A, j), cc)))) ∧ ((¬ c < 8) → P (.inr 1, gv_ex (G, (mI A, j), cc))))) : EvP X (d + 1) gvm_127 0 (gv_enter [.ref 0, .int (nI c)] 2) [] (G, (mI A, j), cc) P :=
  (pv_aload_n rfl rfl   (pv_iload_n rfl rfl   (Or.elim (Decidable.em (c < 8)) (fun c1 => pv_virt rfl rfl rfl rfl rfl (oX11_k hp0) rfl rfl rfl (c_needCell (c := c) (A := A) hp0 H.1 c1) (pv_aload_n rfl rfl   (pv_getP rfl rfl (oX11_k hp0) (oX11_3 hp0)   (pv_getP rfl rfl (oX10_k (oX11_3c hp0)) (oX10_3 (oX11_3c hp0))   (pv_iload_n rfl rfl   (pn_bipush rfl rfl   (pn_iandm 3 8 rfl rfl rfl   (pn_iald rfl (oX10_3c (oX11_3c hp0)) (by decide) (H.2.1 c1).1 rfl (pv_ireti rfl rfl (H.2.1 c1).2))))))))) (fun c1 => pv_virtT rfl rfl rfl rfl rfl (oX11_k hp0) rfl rfl rfl rfl (c_needCell_x (c := c) (A := A) hp0 H.1 c1) (H.2.2 c1)))))
theorem c_cell_p {X : gv_X} {d : Nat} {G : gv_Sh} {A : Nat → Nat → Nat} {j : Nat → Nat → Int64} {cc : gv_Rs} {P : gv_O × gv_S → Prop} {c : Nat} {R : Nat → Nat} (hp0 : oX11 G 0) (p0 : cK A R) (p1 : c < 4294967296) (hP : ∀ A1 : Nat → Nat → Nat, (cK A1 R) ∧ (frK A A1) → P (oc (fun _ => 1) (spCell R c).1 (spCell R c).2 (G, (mI A1, j), cc))) : EvP X (d + 1) gvm_127 0 (gv_enter [.ref 0, .int (nI c)] 2) [] (G, (mI A, j), cc) P := by
  have ok : ∀ B x, cK B R ∧ frK A B → spCell R c = (0, x) → P (.inl (some (.int (nI x))), (G, (mI B, j), cc)) := fun B x h1 h3 => by
    have := hP B h1
    rw [h3] at this
    exact this
  have no1 : ∀ B, cK B R ∧ frK A B → spCell R c = (1, 0) → P (.inr 1, gv_ex (G, (mI B, j), cc)) := fun B h1 h3 => by
    have := hP B h1
    rw [h3] at this
    exact this
  have K : cK A R ∧ frK A A := ⟨p0, frK_rf A⟩
  refine w127 hp0 ⟨p1, fun c1 => ⟨by omega, ?_⟩, fun c1 => no1 A K (by unfold spCell; rw [if_pos (by omega)])⟩
  have e : A 10 (c % 8) = R (22 + c) := by rw [Nat.mod_eq_of_lt c1]; exact p0.2.1.2.2.1 c c1
  rw [e]
  exact ok A _ K (by unfold spCell; rw [if_neg (by omega)])
theorem w129 {X : gv_X} {d : Nat} {G : gv_Sh} {A : Nat → Nat → Nat} {j : Nat → Nat → Int64} {cc : gv_Rs} {P : gv_O × gv_S → Prop} {b : Bool} {h : Nat} (hp0 : oX11 G 0) (H : (h < 4294967296) ∧ (((h ≤ 13) → ((b = false) → (h < 4294967296) ∧ ((h = 0 → P (.inl (some (.int (nI (A 11 0)))), (G, (mI A, j), cc))) ∧ (h = 1 → P (.inl (some (.int (nI (A 11 1)))), (G, (mI A, j), cc))) ∧ (h = 2 → P (.inl (some (.int (nI (A 11 2)))), (G, (mI A, j), cc))) ∧ (h = 3 → P (.inl (some (.int (nI (A 11 3)))), (G, (mI A, j), cc))) ∧ (h = 4 → P (.inl (some (.int (nI (A 11 4)))), (G, (mI A, j), cc))) ∧ (h = 5 → ((A 11 0) < 4294967296) ∧ ((A 2 2 ≤ 10) ∧ (((if (A 11 0) < A 2 2 then A (2 + 7) (A 11 0) else 4294967295) < 4294967296) ∧ (((¬ (if (A 11 0) < A 2 2 then A (2 + 7) (A 11 0) else 4294967295) = 4294967295) → P (.inl (some (.int (nI 0))), (G, (mI A, j), cc))) ∧ (((if (A 11 0) < A 2 2 then A (2 + 7) (A 11 0) else 4294967295) = 4294967295) → P (.inl (some (.int (nI 1))), (G, (mI A, j), cc))))))) ∧ ((h < 0 ∨ 5 < h) → (6 ≤ h) ∧ ((((h - 6) % 8) < 8) ∧ (P (.inl (some (.int (nI (A 12 ((h - 6) % 8))))), (G, (mI A, j), cc))))))) ∧ ((b = true) → (h < 4294967296) ∧ ((h = 0 → P (.inl (some (.int (nI (A 13 0)))), (G, (mI A, j), cc))) ∧ (h = 1 → P (.inl (some (.int (nI (A 13 1)))), (G, (mI A, j), cc))) ∧ (h = 2 → P (.inl (some (.int (nI (A 13 2)))), (G, (mI A, j), cc))) ∧ (h = 3 → P (.inl (some (.int (nI (A 13 3)))), (G, (mI A, j), cc))) ∧ (h = 4 → P (.inl (some (.int (nI (A 13 4)))), (G, (mI A, j), cc))) ∧ (h = 5 → ((A 13 0) < 4294967296) ∧ ((A 2 2 ≤ 10) ∧ (((if (A 13 0) < A 2 2 then A (2 + 7) (A 13 0) else 4294967295) < 4294967296) ∧ (((¬ (if (A 13 0) < A 2 2 then A (2 + 7) (A 13 0) else 4294967295) = 4294967295) → P (.inl (some (.int (nI 0))), (G, (mI A, j), cc))) ∧ (((if (A 13 0) < A 2 2 then A (2 + 7) (A 13 0) else 4294967295) = 4294967295) → P (.inl (some (.int (nI 1))), (G, (mI A, j), cc))))))) ∧ ((h < 0 ∨ 5 < h) → (6 ≤ h) ∧ ((((h - 6) % 8) < 8) ∧ (P (.inl (some (.int (nI (A 14 ((h - 6) % 8))))), (G, (mI A, j), cc)))))))) ∧ ((¬ h ≤ 13) → P (.inr 3, gv_ex (G, (mI A, j), cc))))) : EvP X (d + 1) gvm_129 0 (gv_enter [.ref 0, .int (zo b), .int (nI h)] 4) [] (G, (mI A, j), cc) P :=
  (pv_aload_n rfl rfl   (pv_iload_n rfl rfl   (pn_bipush rfl rfl   (Or.elim (Decidable.em (h ≤ 13)) (fun c1 => pv_virt rfl rfl rfl rfl rfl (oX11_k hp0) rfl rfl rfl (c_needWhat (n := h) (m := 13) (A := A) hp0 H.1 (by decide) c1) (pv_iload_n rfl rfl   (pv_if_eq_zo rfl  (fun c2 => (pv_aload_n rfl rfl   (pv_getP rfl rfl (oX11_k hp0) (oX11_3 hp0)   (pv_getP rfl rfl (oX10_k (oX11_3c hp0)) (oX10_12 (oX11_3c hp0))   (pv_astore_n rfl rfl   (pv_iload_n rfl rfl   (Or.elim (Decidable.em (h = 0)) (fun c3e => (pn_tswl 0 68 rfl c3e (by decide) (by decide) rfl rfl (pv_aload_n rfl rfl   (pn_getI rfl rfl (oX1_k (oX10_12c (oX11_3c hp0))) rfl   (pv_ireti rfl rfl (((H.2.1 c1).1 c2).2.1 c3e)))))) (fun c3n0 => (Or.elim (Decidable.em (h = 1)) (fun c3e => (pn_tswl 1 73 rfl c3e (by decide) (by decide) rfl rfl (pv_aload_n rfl rfl   (pn_getI rfl rfl (oX1_k (oX10_12c (oX11_3c hp0))) rfl   (pv_ireti rfl rfl (((H.2.1 c1).1 c2).2.2.1 c3e)))))) (fun c3n1 => (Or.elim (Decidable.em (h = 2)) (fun c3e => (pn_tswl 2 78 rfl c3e (by decide) (by decide) rfl rfl (pv_aload_n rfl rfl   (pn_getI rfl rfl (oX1_k (oX10_12c (oX11_3c hp0))) rfl   (pv_ireti rfl rfl (((H.2.1 c1).1 c2).2.2.2.1 c3e)))))) (fun c3n2 => (Or.elim (Decidable.em (h = 3)) (fun c3e => (pn_tswl 3 83 rfl c3e (by decide) (by decide) rfl rfl (pv_aload_n rfl rfl   (pn_getI rfl rfl (oX1_k (oX10_12c (oX11_3c hp0))) rfl   (pv_ireti rfl rfl (((H.2.1 c1).1 c2).2.2.2.2.1 c3e)))))) (fun c3n3 => (Or.elim (Decidable.em (h = 4)) (fun c3e => (pn_tswl 4 88 rfl c3e (by decide) (by decide) rfl rfl (pv_aload_n rfl rfl   (pn_getI rfl rfl (oX1_k (oX10_12c (oX11_3c hp0))) rfl   (pv_ireti rfl rfl (((H.2.1 c1).1 c2).2.2.2.2.2.1 c3e)))))) (fun c3n4 => (Or.elim (Decidable.em (h = 5)) (fun c3e => (pn_tswl 5 93 rfl c3e (by decide) (by decide) rfl rfl (pv_aload_n rfl rfl   (pv_getP rfl rfl (oX11_k hp0) (oX11_3 hp0)   (pv_aload_n rfl rfl   (pn_getI rfl rfl (oX1_k (oX10_12c (oX11_3c hp0))) rfl   (pv_virt rfl rfl rfl rfl rfl (oX10_k (oX11_3c hp0)) rfl rfl rfl (c_opAt (c := (A 11 0)) (A := A) (oX11_3c hp0) (((H.2.1 c1).1 c2).2.2.2.2.2.2.1 c3e).1 (((H.2.1 c1).1 c2).2.2.2.2.2.2.1 c3e).2.1 ) (pn_iconst (u := 4294967295) rfl (by decide)   (pn_ic_ne rfl (((H.2.1 c1).1 c2).2.2.2.2.2.2.1 c3e).2.2.1 (by decide) (fun c4 => (pn_iconst rfl rfl   (pv_ireti rfl rfl ((((H.2.1 c1).1 c2).2.2.2.2.2.2.1 c3e).2.2.2.1 c4)))) (fun c4 => (pn_iconst rfl rfl   (pv_goto rfl (pv_ireti rfl rfl ((((H.2.1 c1).1 c2).2.2.2.2.2.2.1 c3e).2.2.2.2 c4)))))))))))))) (fun c3n5 => (have c3d : h < 0 ∨ 5 < h := (by omega); pn_tswlD 0 5 114 rfl rfl rfl (by decide) ((H.2.1 c1).1 c2).1 c3d rfl (pv_aload_n rfl rfl   (pv_getP rfl rfl (oX1_k (oX10_12c (oX11_3c hp0))) (oX1_6 (oX10_12c (oX11_3c hp0)))   (pv_iload_n rfl rfl   (pn_bipush rfl rfl   (pn_isub rfl (((H.2.1 c1).1 c2).2.2.2.2.2.2.2 c3d).1  (pn_bipush rfl rfl   (pn_iandm 3 8 rfl rfl rfl   (pn_iald rfl (oX1_6c (oX10_12c (oX11_3c hp0))) (by decide) (((H.2.1 c1).1 c2).2.2.2.2.2.2.2 c3d).2.1 rfl (pv_ireti rfl rfl (((H.2.1 c1).1 c2).2.2.2.2.2.2.2 c3d).2.2)))))))))))))))))))))))))))) (fun c2 => (pv_aload_n rfl rfl   (pv_getP rfl rfl (oX11_k hp0) (oX11_3 hp0)   (pv_getP rfl rfl (oX10_k (oX11_3c hp0)) (oX10_13 (oX11_3c hp0))   (pv_goto rfl (pv_astore_n rfl rfl   (pv_iload_n rfl rfl   (Or.elim (Decidable.em (h = 0)) (fun c5e => (pn_tswl 0 68 rfl c5e (by decide) (by decide) rfl rfl (pv_aload_n rfl rfl   (pn_getI rfl rfl (oX1_k (oX10_13c (oX11_3c hp0))) rfl   (pv_ireti rfl rfl (((H.2.1 c1).2 c2).2.1 c5e)))))) (fun c5n0 => (Or.elim (Decidable.em (h = 1)) (fun c5e => (pn_tswl 1 73 rfl c5e (by decide) (by decide) rfl rfl (pv_aload_n rfl rfl   (pn_getI rfl rfl (oX1_k (oX10_13c (oX11_3c hp0))) rfl   (pv_ireti rfl rfl (((H.2.1 c1).2 c2).2.2.1 c5e)))))) (fun c5n1 => (Or.elim (Decidable.em (h = 2)) (fun c5e => (pn_tswl 2 78 rfl c5e (by decide) (by decide) rfl rfl (pv_aload_n rfl rfl   (pn_getI rfl rfl (oX1_k (oX10_13c (oX11_3c hp0))) rfl   (pv_ireti rfl rfl (((H.2.1 c1).2 c2).2.2.2.1 c5e)))))) (fun c5n2 => (Or.elim (Decidable.em (h = 3)) (fun c5e => (pn_tswl 3 83 rfl c5e (by decide) (by decide) rfl rfl (pv_aload_n rfl rfl   (pn_getI rfl rfl (oX1_k (oX10_13c (oX11_3c hp0))) rfl   (pv_ireti rfl rfl (((H.2.1 c1).2 c2).2.2.2.2.1 c5e)))))) (fun c5n3 => (Or.elim (Decidable.em (h = 4)) (fun c5e => (pn_tswl 4 88 rfl c5e (by decide) (by decide) rfl rfl (pv_aload_n rfl rfl   (pn_getI rfl rfl (oX1_k (oX10_13c (oX11_3c hp0))) rfl   (pv_ireti rfl rfl (((H.2.1 c1).2 c2).2.2.2.2.2.1 c5e)))))) (fun c5n4 => (Or.elim (Decidable.em (h = 5)) (fun c5e => (pn_tswl 5 93 rfl c5e (by decide) (by decide) rfl rfl (pv_aload_n rfl rfl   (pv_getP rfl rfl (oX11_k hp0) (oX11_3 hp0)   (pv_aload_n rfl rfl   (pn_getI rfl rfl (oX1_k (oX10_13c (oX11_3c hp0))) rfl   (pv_virt rfl rfl rfl rfl rfl (oX10_k (oX11_3c hp0)) rfl rfl rfl (c_opAt (c := (A 13 0)) (A := A) (oX11_3c hp0) (((H.2.1 c1).2 c2).2.2.2.2.2.2.1 c5e).1 (((H.2.1 c1).2 c2).2.2.2.2.2.2.1 c5e).2.1 ) (pn_iconst (u := 4294967295) rfl (by decide)   (pn_ic_ne rfl (((H.2.1 c1).2 c2).2.2.2.2.2.2.1 c5e).2.2.1 (by decide) (fun c6 => (pn_iconst rfl rfl   (pv_ireti rfl rfl ((((H.2.1 c1).2 c2).2.2.2.2.2.2.1 c5e).2.2.2.1 c6)))) (fun c6 => (pn_iconst rfl rfl   (pv_goto rfl (pv_ireti rfl rfl ((((H.2.1 c1).2 c2).2.2.2.2.2.2.1 c5e).2.2.2.2 c6)))))))))))))) (fun c5n5 => (have c5d : h < 0 ∨ 5 < h := (by omega); pn_tswlD 0 5 114 rfl rfl rfl (by decide) ((H.2.1 c1).2 c2).1 c5d rfl (pv_aload_n rfl rfl   (pv_getP rfl rfl (oX1_k (oX10_13c (oX11_3c hp0))) (oX1_6 (oX10_13c (oX11_3c hp0)))   (pv_iload_n rfl rfl   (pn_bipush rfl rfl   (pn_isub rfl (((H.2.1 c1).2 c2).2.2.2.2.2.2.2 c5d).1  (pn_bipush rfl rfl   (pn_iandm 3 8 rfl rfl rfl   (pn_iald rfl (oX1_6c (oX10_13c (oX11_3c hp0))) (by decide) (((H.2.1 c1).2 c2).2.2.2.2.2.2.2 c5d).2.1 rfl (pv_ireti rfl rfl (((H.2.1 c1).2 c2).2.2.2.2.2.2.2 c5d).2.2)))))))))))))))))))))))))))))))) (fun c1 => pv_virtT rfl rfl rfl rfl rfl (oX11_k hp0) rfl rfl rfl rfl (c_needWhat_x (n := h) (m := 13) (A := A) hp0 H.1 (by decide) c1) (H.2.2 c1))))))
theorem c_guest_p {X : gv_X} {d : Nat} {G : gv_Sh} {A : Nat → Nat → Nat} {j : Nat → Nat → Int64} {cc : gv_Rs} {P : gv_O × gv_S → Prop} {b : Bool} {h : Nat} {R : Nat → Nat} (hp0 : oX11 G 0) (p0 : cK A R) (p1 : h < 4294967296) (hP : ∀ A1 : Nat → Nat → Nat, (cK A1 R) ∧ (frK A A1) → P (oc (fun _ => 3) (spGuest R b h).1 (spGuest R b h).2 (G, (mI A1, j), cc))) : EvP X (d + 1) gvm_129 0 (gv_enter [.ref 0, .int (zo b), .int (nI h)] 4) [] (G, (mI A, j), cc) P := by
  have ok : ∀ B x, cK B R ∧ frK A B → spGuest R b h = (0, x) → P (.inl (some (.int (nI x))), (G, (mI B, j), cc)) := fun B x h1 h3 => by
    have := hP B h1
    rw [h3] at this
    exact this
  have no1 : ∀ B, cK B R ∧ frK A B → spGuest R b h = (1, 0) → P (.inr 3, gv_ex (G, (mI B, j), cc)) := fun B h1 h3 => by
    have := hP B h1
    rw [h3] at this
    exact this
  have K : cK A R ∧ frK A A := ⟨p0, frK_rf A⟩
  have n := okW_n p0.1
  have rb : rC A 11 R 0 := p0.2.1.2.2.2.2.1
  have rh : rC A 13 R 1 := p0.2.1.2.2.2.2.2.1
  have cb := (rC_ok rb p0.1 (by omega)).2
  have ch := (rC_ok rh p0.1 (by omega)).2
  have q2 := (rP_b p0.2.1.2.1 p0.1).1
  have pk : ∀ c, (c < R 3 ∧ (if c < R 3 then R (12 + c) else 4294967295) < 8) ∨ (R 3 ≤ c ∧ (if c < R 3 then R (12 + c) else 4294967295) = 4294967295) := fun c => by
    by_cases z : c < R 3
    · rw [if_pos z]; exact Or.inl ⟨z, okW_p p0.1 (by omega)⟩
    · rw [if_neg z]; exact Or.inr ⟨by omega, rfl⟩
  have q3 : ∀ c, (if c < A 2 2 then A (2 + 7) c else 4294967295) < 4294967296 := fun c => by
    rw [rW_op p0.2.1]; have := pk c; omega
  refine w129 hp0  ⟨by (first | assumption | exact q3 _ | omega), ⟨fun c1 => ⟨fun c2 => ⟨by (first | assumption | exact q3 _ | omega), ⟨fun c3 => ?_, fun c3 => ?_, fun c3 => ?_, fun c3 => ?_, fun c3 => ?_, fun c3 => ⟨by (first | assumption | exact q3 _ | omega), ⟨by (first | assumption | exact q3 _ | omega), ⟨by (first | assumption | exact q3 _ | omega), ⟨fun c4 => ?_, fun c4 => ?_⟩⟩⟩⟩, fun c3 => ⟨by (first | assumption | exact q3 _ | omega), ⟨by (first | assumption | exact q3 _ | omega), ?_⟩⟩⟩⟩, fun c2 => ⟨by (first | assumption | exact q3 _ | omega), ⟨fun c5 => ?_, fun c5 => ?_, fun c5 => ?_, fun c5 => ?_, fun c5 => ?_, fun c5 => ⟨by (first | assumption | exact q3 _ | omega), ⟨by (first | assumption | exact q3 _ | omega), ⟨by (first | assumption | exact q3 _ | omega), ⟨fun c6 => ?_, fun c6 => ?_⟩⟩⟩⟩, fun c5 => ⟨by (first | assumption | exact q3 _ | omega), ⟨by (first | assumption | exact q3 _ | omega), ?_⟩⟩⟩⟩⟩, fun c1 => ?_⟩⟩
  · subst c3
    rw [show A 11 0 = R (102 + 13 * 0 + 0) from rb.1]
    exact ok A _ K (by unfold spGuest; rw [if_neg (by decide), c2]; rfl)
  · subst c3
    rw [show A 11 1 = R (102 + 13 * 0 + 1) from rb.2.1]
    exact ok A _ K (by unfold spGuest; rw [if_neg (by decide), c2]; rfl)
  · subst c3
    rw [show A 11 2 = R (102 + 13 * 0 + 2) from rb.2.2.1]
    exact ok A _ K (by unfold spGuest; rw [if_neg (by decide), c2]; rfl)
  · subst c3
    rw [show A 11 3 = R (102 + 13 * 0 + 3) from rb.2.2.2.1]
    exact ok A _ K (by unfold spGuest; rw [if_neg (by decide), c2]; rfl)
  · subst c3
    rw [show A 11 4 = R (102 + 13 * 0 + 4) from rb.2.2.2.2.1]
    exact ok A _ K (by unfold spGuest; rw [if_neg (by decide), c2]; rfl)
  · subst c3
    rw [rW_op p0.2.1, show A 11 0 = R (102 + 13 * 0 + 0) from rb.1] at c4
    exact ok A 0 K (by unfold spGuest; rw [if_neg (by decide), c2]; show (0, if R 3 ≤ R (102 + 13 * 0 + 0) then 1 else 0) = (0, 0); rw [if_neg (by have := pk (R (102 + 13 * 0 + 0)); omega)])
  · subst c3
    rw [rW_op p0.2.1, show A 11 0 = R (102 + 13 * 0 + 0) from rb.1] at c4
    exact ok A 1 K (by unfold spGuest; rw [if_neg (by decide), c2]; show (0, if R 3 ≤ R (102 + 13 * 0 + 0) then 1 else 0) = (0, 1); rw [if_pos (by have := pk (R (102 + 13 * 0 + 0)); omega)])
  · rw [show A 12 ((h - 6) % 8) = R (102 + 13 * 0 + (5 + (h - 6) % 8)) from rb.2.2.2.2.2.2 _ (by omega)]
    refine ok A _ K ?_
    unfold spGuest
    rw [if_neg (by omega), c2, if_neg (by omega), if_neg (by omega), show h - 1 = 5 + (h - 6) % 8 by omega]
    rfl
  · subst c5
    rw [show A 13 0 = R (102 + 13 * 1 + 0) from rh.1]
    exact ok A _ K (by unfold spGuest; rw [if_neg (by decide), c2]; rfl)
  · subst c5
    rw [show A 13 1 = R (102 + 13 * 1 + 1) from rh.2.1]
    exact ok A _ K (by unfold spGuest; rw [if_neg (by decide), c2]; rfl)
  · subst c5
    rw [show A 13 2 = R (102 + 13 * 1 + 2) from rh.2.2.1]
    exact ok A _ K (by unfold spGuest; rw [if_neg (by decide), c2]; rfl)
  · subst c5
    rw [show A 13 3 = R (102 + 13 * 1 + 3) from rh.2.2.2.1]
    exact ok A _ K (by unfold spGuest; rw [if_neg (by decide), c2]; rfl)
  · subst c5
    rw [show A 13 4 = R (102 + 13 * 1 + 4) from rh.2.2.2.2.1]
    exact ok A _ K (by unfold spGuest; rw [if_neg (by decide), c2]; rfl)
  · subst c5
    rw [rW_op p0.2.1, show A 13 0 = R (102 + 13 * 1 + 0) from rh.1] at c6
    exact ok A 0 K (by unfold spGuest; rw [if_neg (by decide), c2]; show (0, if R 3 ≤ R (102 + 13 * 1 + 0) then 1 else 0) = (0, 0); rw [if_neg (by have := pk (R (102 + 13 * 1 + 0)); omega)])
  · subst c5
    rw [rW_op p0.2.1, show A 13 0 = R (102 + 13 * 1 + 0) from rh.1] at c6
    exact ok A 1 K (by unfold spGuest; rw [if_neg (by decide), c2]; show (0, if R 3 ≤ R (102 + 13 * 1 + 0) then 1 else 0) = (0, 1); rw [if_pos (by have := pk (R (102 + 13 * 1 + 0)); omega)])
  · rw [show A 14 ((h - 6) % 8) = R (102 + 13 * 1 + (5 + (h - 6) % 8)) from rh.2.2.2.2.2.2 _ (by omega)]
    refine ok A _ K ?_
    unfold spGuest
    rw [if_neg (by omega), c2, if_neg (by omega), if_neg (by omega), show h - 1 = 5 + (h - 6) % 8 by omega]
    rfl
  · exact no1 A K (by unfold spGuest; rw [if_pos (by omega)])
theorem w142 {X : gv_X} {d : Nat} {G : gv_Sh} {A : Nat → Nat → Nat} {j : Nat → Nat → Int64} {cc : gv_Rs} {P : gv_O × gv_S → Prop} {R : Nat → Nat} (hp0 : oX11 G 0) (H : (okW R) ∧ ((rW A 2 R) ∧ (P (.inl (some (.int (zo (alk R)))), (G, (mI A, j), cc))))) : EvP X (d + 3) gvm_142 0 (gv_enter [.ref 0] 1) [] (G, (mI A, j), cc) P :=
  (pv_aload_n rfl rfl   (pv_getP rfl rfl (oX11_k hp0) (oX11_3 hp0)   (pv_virt rfl rfl rfl rfl rfl (oX10_k (oX11_3c hp0)) rfl rfl rfl (c_viewsAlike (R := R) (A := A) (oX11_3c hp0) H.1 H.2.1 ) (pv_iretz rfl rfl (zo_b _) H.2.2))))
theorem c_alike_p {X : gv_X} {d : Nat} {G : gv_Sh} {A : Nat → Nat → Nat} {j : Nat → Nat → Int64} {cc : gv_Rs} {P : gv_O × gv_S → Prop} {R : Nat → Nat} (hp0 : oX11 G 0) (p0 : cK A R) (hP : P (.inl (some (.int (zo (alk R)))), (G, (mI A, j), cc))) : EvP X (d + 3) gvm_142 0 (gv_enter [.ref 0] 1) [] (G, (mI A, j), cc) P := by
  exact w142 (R := R) hp0 ⟨p0.1, p0.2.1, hP⟩
theorem c_alike {X : gv_X} {d : Nat} {G : gv_Sh} {A : Nat → Nat → Nat} {j : Nat → Nat → Int64} {cc : gv_Rs} {R : Nat → Nat} (hp0 : oX11 G 0) (p0 : cK A R) : Ev X (d + 3) gvm_142 0 (gv_enter [.ref 0] 1) [] (G, (mI A, j), cc) (.inl (some (.int (zo (alk R)))), (G, (mI A, j), cc)) := evp_det (c_alike_p hp0 p0 rfl)
theorem w185 {X : gv_X} {d : Nat} {G : gv_Sh} {A : Nat → Nat → Nat} {j : Nat → Nat → Int64} {cc : gv_Rs} {P : gv_O × gv_S → Prop} {a : Nat} {h : Nat} {R : Nat → Nat} (hp0 : oX11 G 0) (H : (h < 4294967296) ∧ (((h ≤ 3) → (okW R) ∧ ((rL A 15 R) ∧ ((a < 4294967296) ∧ ((h < 4294967296) ∧ (P (.inl (some (.int (nI (if a < R 10 ∧ h < 4 then R (128 + 4 * a + h) else 4294967294)))), (G, (mI A, j), cc))))))) ∧ ((¬ h ≤ 3) → P (.inr 3, gv_ex (G, (mI A, j), cc))))) : EvP X (d + 2) gvm_185 0 (gv_enter [.ref 0, .int (nI a), .int (nI h)] 3) [] (G, (mI A, j), cc) P :=
  (pv_aload_n rfl rfl   (pv_iload_n rfl rfl   (pn_iconst rfl rfl   (Or.elim (Decidable.em (h ≤ 3)) (fun c1 => pv_virt rfl rfl rfl rfl rfl (oX11_k hp0) rfl rfl rfl (c_needWhat (n := h) (m := 3) (A := A) hp0 H.1 (by decide) c1) (pv_aload_n rfl rfl   (pv_getP rfl rfl (oX11_k hp0) (oX11_3 hp0)   (pv_getP rfl rfl (oX10_k (oX11_3c hp0)) (oX10_14 (oX11_3c hp0))   (pv_iload_n rfl rfl   (pv_iload_n rfl rfl   (pv_virt rfl rfl rfl rfl rfl (oX5_k (oX10_14c (oX11_3c hp0))) rfl rfl rfl (c_logGet (a := a) (h := h) (R := R) (A := A) (oX10_14c (oX11_3c hp0)) (H.2.1 c1).1 (H.2.1 c1).2.1 (H.2.1 c1).2.2.1 (H.2.1 c1).2.2.2.1 ) (pv_ireti rfl rfl (H.2.1 c1).2.2.2.2)))))))) (fun c1 => pv_virtT rfl rfl rfl rfl rfl (oX11_k hp0) rfl rfl rfl rfl (c_needWhat_x (n := h) (m := 3) (A := A) hp0 H.1 (by decide) c1) (H.2.2 c1))))))
theorem c_log_p {X : gv_X} {d : Nat} {G : gv_Sh} {A : Nat → Nat → Nat} {j : Nat → Nat → Int64} {cc : gv_Rs} {P : gv_O × gv_S → Prop} {a : Nat} {h : Nat} {R : Nat → Nat} (hp0 : oX11 G 0) (p0 : cK A R) (p1 : a < 4294967296) (p2 : h < 4294967296) (hP : ∀ A1 : Nat → Nat → Nat, (cK A1 R) ∧ (frK A A1) → P (oc (fun _ => 3) (spLog R a h).1 (spLog R a h).2 (G, (mI A1, j), cc))) : EvP X (d + 2) gvm_185 0 (gv_enter [.ref 0, .int (nI a), .int (nI h)] 3) [] (G, (mI A, j), cc) P := by
  have ok : ∀ B x, cK B R ∧ frK A B → spLog R a h = (0, x) → P (.inl (some (.int (nI x))), (G, (mI B, j), cc)) := fun B x h1 h3 => by
    have := hP B h1
    rw [h3] at this
    exact this
  have no1 : ∀ B, cK B R ∧ frK A B → spLog R a h = (1, 0) → P (.inr 3, gv_ex (G, (mI B, j), cc)) := fun B h1 h3 => by
    have := hP B h1
    rw [h3] at this
    exact this
  have K : cK A R ∧ frK A A := ⟨p0, frK_rf A⟩
  refine w185 (R := R) hp0 ⟨p2, fun c1 => ⟨p0.1, p0.2.1.2.2.2.2.2.2, p1, p2, ok A _ K ?_⟩, fun c1 => no1 A K (by unfold spLog; rw [if_pos (by omega)])⟩
  unfold spLog
  rw [if_neg (by omega)]
  by_cases z : a < R 10
  · rw [if_pos z, if_pos ⟨z, by omega⟩]
  · rw [if_neg z, if_neg (fun y => z y.1)]
