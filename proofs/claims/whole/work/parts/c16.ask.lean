/-! the class: what is asked, second part -/
theorem w125 {X : gv_X} {d : Nat} {G : gv_Sh} {A : Nat → Nat → Nat} {j : Nat → Nat → Int64} {cc : gv_Rs} {P : gv_O × gv_S → Prop} {p : Nat} {s : Nat} {h : Nat} (hp0 : oX11 G 0) (H : (p < 4294967296) ∧ ((A 3 0 ≤ 8) ∧ (((p < A 3 0) → (s < 4294967296) ∧ ((((0 ≤ s ∧ s ≤ 511)) → (h < 4294967296) ∧ (((h ≤ 12) → (s < 512) ∧ ((∀ A1v4 : Nat → Nat → Nat, ((eqM (cM A1v4 26) (stM s (s / 4 % 2) (2 * (s / 8 % 4)) 0 0)) ∧ (frC A A1v4 26)) → EvP X (d + 3) gvm_125 36 [some (.ref 0), some (.int (nI p)), some (.int (nI s)), some (.int (nI h)), some (.ref 26), none] [] (G, (mI A1v4, j), cc) P))) ∧ ((¬ h ≤ 12) → P (.inr 3, gv_ex (G, (mI A, j), cc))))) ∧ ((¬ (0 ≤ s ∧ s ≤ 511)) → P (.inr 0, gv_ex (G, (mI A, j), cc))))) ∧ ((¬ p < A 3 0) → P (.inr 1, gv_ex (G, (mI A, j), cc)))))) : EvP X (d + 3) gvm_125 0 (gv_enter [.ref 0, .int (nI p), .int (nI s), .int (nI h)] 6) [] (G, (mI A, j), cc) P :=
  (pv_aload_n rfl rfl   (pv_iload_n rfl rfl   (Or.elim (Decidable.em (p < A 3 0)) (fun c1 => pv_virt rfl rfl rfl rfl rfl (oX11_k hp0) rfl rfl rfl (c_needOp (p := p) (A := A) hp0 H.1 H.2.1 c1) (pv_aload_n rfl rfl   (pv_iload_n rfl rfl   (pn_iconst rfl rfl   (pn_sipush rfl rfl   (Or.elim (Decidable.em ((0 ≤ s ∧ s ≤ 511))) (fun c2 => pv_virt rfl rfl rfl rfl rfl (oX11_k hp0) rfl rfl rfl (c_needNumber (n := s) (lo := 0) (hi := 511) (A := A) hp0 (H.2.2.1 c1).1 (by decide) (by decide) c2) (pv_aload_n rfl rfl   (pv_iload_n rfl rfl   (pn_bipush rfl rfl   (Or.elim (Decidable.em (h ≤ 12)) (fun c3 => pv_virt rfl rfl rfl rfl rfl (oX11_k hp0) rfl rfl rfl (c_needWhat (n := h) (m := 12) (A := A) hp0 ((H.2.2.1 c1).2.1 c2).1 (by decide) c3) (pv_aload_n rfl rfl   (pv_getP rfl rfl (oX11_k hp0) (oX11_4 hp0)   (pv_getP rfl rfl (oX10_k (oX11_4c hp0)) (oX10_12 (oX11_4c hp0))   (pv_astore rfl rfl   (pv_aload rfl rfl   (pv_iload_n rfl rfl   (match (c_toState (s := s) (A := A) (X := X) (d := d + 2) (G := G) (j := j) (cc := cc) (oX10_12c (oX11_4c hp0)) (((H.2.2.1 c1).2.1 c2).2.1 c3).1 ) with | ⟨A1v4, e4x33, h4⟩ => pv_virt rfl rfl rfl rfl rfl (oX1_k (oX10_12c (oX11_4c hp0))) rfl rfl rfl e4x33 ((((H.2.2.1 c1).2.1 c2).2.1 c3).2 A1v4 h4))))))))) (fun c3 => pv_virtT rfl rfl rfl rfl rfl (oX11_k hp0) rfl rfl rfl rfl (c_needWhat_x (n := h) (m := 12) (A := A) hp0 ((H.2.2.1 c1).2.1 c2).1 (by decide) c3) (((H.2.2.1 c1).2.1 c2).2.2 c3))))))) (fun c2 => pv_virtT rfl rfl rfl rfl rfl (oX11_k hp0) rfl rfl rfl rfl (c_needNumber_x (n := s) (lo := 0) (hi := 511) (A := A) hp0 (H.2.2.1 c1).1 (by decide) (by decide) c2) ((H.2.2.1 c1).2.2 c2)))))))) (fun c1 => pv_virtT rfl rfl rfl rfl rfl (oX11_k hp0) rfl rfl rfl rfl (c_needOp_x (p := p) (A := A) hp0 H.1 H.2.1 c1) (H.2.2.2 c1)))))
theorem w125_36 {X : gv_X} {d : Nat} {G : gv_Sh} {A : Nat → Nat → Nat} {j : Nat → Nat → Int64} {cc : gv_Rs} {P : gv_O × gv_S → Prop} {p : Nat} {s : Nat} {h : Nat} (hp0 : oX11 G 0) (H : (p < 4294967296) ∧ (((A 26 2) < 4294967296) ∧ ((A 3 0 ≤ 8) ∧ ((∀ z, z < A 3 0 → A (3 + 4) z ≤ 1) ∧ (EvP X (d + 3) gvm_125 54 [some (.ref 0), some (.int (nI p)), some (.int (nI s)), some (.int (nI h)), some (.ref 26), some (.int (zo (decide ((A 26 2) = 0 ∧ p < A 3 0 ∧ A (3 + 4) p = 1))))] [] (G, (mI A, j), cc) P))))) : EvP X (d + 3) gvm_125 36 [some (.ref 0), some (.int (nI p)), some (.int (nI s)), some (.int (nI h)), some (.ref 26), none] [] (G, (mI A, j), cc) P :=
  (pv_aload_n rfl rfl   (pv_getP rfl rfl (oX11_k hp0) (oX11_3 hp0)   (pv_getP rfl rfl (oX10_k (oX11_3c hp0)) (oX10_0 (oX11_3c hp0))   (pv_iload_n rfl rfl   (pv_aload rfl rfl   (pn_getI rfl rfl (oX1_k (oX10_12c (oX11_4c hp0))) rfl   (pv_virt rfl rfl rfl rfl rfl (oX6_k (oX10_0c (oX11_3c hp0))) rfl rfl rfl (c_trapsIn (p := p) (m := (A 26 2)) (A := A) (oX10_0c (oX11_3c hp0)) H.1 H.2.1 H.2.2.1 H.2.2.2.1 ) (pv_istore rfl rfl   H.2.2.2.2))))))))
theorem w125_54 {X : gv_X} {d : Nat} {G : gv_Sh} {A : Nat → Nat → Nat} {j : Nat → Nat → Int64} {cc : gv_Rs} {P : gv_O × gv_S → Prop} {p : Nat} {s : Nat} {h : Nat} {l5 : Bool} (hp0 : oX11 G 0) (H : (h < 4294967296) ∧ (((¬ h = 0) → ((l5 = false) → EvP X (d + 3) gvm_125 76 [some (.ref 0), some (.int (nI p)), some (.int (nI s)), some (.int (nI h)), some (.ref 26), some (.int (zo l5))] [] (G, (mI A, j), cc) P) ∧ ((l5 = true) → P (.inl (some (.int (nI 4294967295))), (G, (mI A, j), cc)))) ∧ ((h = 0) → ((l5 = false) → P (.inl (some (.int (nI 0))), (G, (mI A, j), cc))) ∧ ((l5 = true) → P (.inl (some (.int (nI 1))), (G, (mI A, j), cc)))))) : EvP X (d + 3) gvm_125 54 [some (.ref 0), some (.int (nI p)), some (.int (nI s)), some (.int (nI h)), some (.ref 26), some (.int (zo l5))] [] (G, (mI A, j), cc) P :=
  (pv_iload_n rfl rfl   (pn_if_ne rfl H.1 (fun c1 => (pv_iload rfl rfl   (pv_if_eq_zo rfl  (fun c2 => ((H.2.1 c1).1 c2)) (fun c2 => (pn_iconst (u := 4294967295) rfl (by decide)   (pv_ireti rfl rfl ((H.2.1 c1).2 c2))))))) (fun c1 => (pv_iload rfl rfl   (pv_if_eq_zo rfl  (fun c3 => (pn_iconst rfl rfl   (pv_ireti rfl rfl ((H.2.2 c1).1 c3)))) (fun c3 => (pn_iconst rfl rfl   (pv_goto rfl (pv_ireti rfl rfl ((H.2.2 c1).2 c3))))))))))
theorem w125_76 {X : gv_X} {d : Nat} {G : gv_Sh} {A : Nat → Nat → Nat} {j : Nat → Nat → Int64} {cc : gv_Rs} {P : gv_O × gv_S → Prop} {p : Nat} {s : Nat} {h : Nat} {l5 : Bool} (hp0 : oX11 G 0) (H : (p < 4294967296) ∧ ((A 3 0 ≤ 8) ∧ ((∀ z, z < A 3 0 → A (3 + 1) z ≤ 3) ∧ ((∀ z i, z < A 3 0 → i < 3 → A (3 + 2) (z * 3 + i) < 4294967296 ∧ A (3 + 3) (z * 3 + i) ≤ 7) ∧ ((26 + 2 ≤ 3 ∨ 3 + 6 ≤ 26) ∧ ((okM (cM A 26)) ∧ ((∀ A1v1 : Nat → Nat → Nat, ((cM A1v1 26 = pfC A 3 p 0 (cM A 26)) ∧ (frC A A1v1 26)) → EvP X (d + 3) gvm_125 90 [some (.ref 0), some (.int (nI p)), some (.int (nI s)), some (.int (nI h)), some (.ref 26), some (.int (zo l5))] [] (G, (mI A1v1, j), cc) P)))))))) : EvP X (d + 3) gvm_125 76 [some (.ref 0), some (.int (nI p)), some (.int (nI s)), some (.int (nI h)), some (.ref 26), some (.int (zo l5))] [] (G, (mI A, j), cc) P :=
  (pv_aload rfl rfl   (pv_aload_n rfl rfl   (pv_getP rfl rfl (oX11_k hp0) (oX11_3 hp0)   (pv_getP rfl rfl (oX10_k (oX11_3c hp0)) (oX10_0 (oX11_3c hp0))   (pv_iload_n rfl rfl   (pn_iconst rfl rfl   (match (c_perform (p := p) (f := 0) (A := A) (X := X) (d := d + 0) (G := G) (j := j) (cc := cc) (oX10_12c (oX11_4c hp0)) (oX10_0c (oX11_3c hp0)) H.1 (by decide) H.2.1 H.2.2.1 H.2.2.2.1 H.2.2.2.2.1 H.2.2.2.2.2.1 ) with | ⟨A1v1, e1x87, h1⟩ => pv_virt rfl rfl rfl rfl rfl (oX1_k (oX10_12c (oX11_4c hp0))) rfl rfl rfl e1x87 (H.2.2.2.2.2.2 A1v1 h1))))))))
theorem w125_90 {X : gv_X} {d : Nat} {G : gv_Sh} {A : Nat → Nat → Nat} {j : Nat → Nat → Int64} {cc : gv_Rs} {P : gv_O × gv_S → Prop} {p : Nat} {s : Nat} {h : Nat} {l5 : Bool} (hp0 : oX11 G 0) (H : (h < 4294967296) ∧ ((h = 1 → P (.inl (some (.int (nI (A 26 1)))), (G, (mI A, j), cc))) ∧ (h = 2 → P (.inl (some (.int (nI (A 26 2)))), (G, (mI A, j), cc))) ∧ (h = 3 → P (.inl (some (.int (nI (A 26 3)))), (G, (mI A, j), cc))) ∧ (h = 4 → ((A 26 5) < 4294967296) ∧ ((((A 26 5) = 0) → P (.inl (some (.int (nI 0))), (G, (mI A, j), cc))) ∧ ((¬ (A 26 5) = 0) → P (.inl (some (.int (nI 1))), (G, (mI A, j), cc))))) ∧ ((h < 1 ∨ 4 < h) → (5 ≤ h) ∧ ((((h - 5) % 8) < 8) ∧ (P (.inl (some (.int (nI (A 27 ((h - 5) % 8))))), (G, (mI A, j), cc))))))) : EvP X (d + 3) gvm_125 90 [some (.ref 0), some (.int (nI p)), some (.int (nI s)), some (.int (nI h)), some (.ref 26), some (.int (zo l5))] [] (G, (mI A, j), cc) P :=
  (pv_iload_n rfl rfl   (Or.elim (Decidable.em (h = 1)) (fun c1e => (pn_tswl 1 120 rfl c1e (by decide) (by decide) rfl rfl (pv_aload rfl rfl   (pn_getI rfl rfl (oX1_k (oX10_12c (oX11_4c hp0))) rfl   (pv_ireti rfl rfl (H.2.1 c1e)))))) (fun c1n0 => (Or.elim (Decidable.em (h = 2)) (fun c1e => (pn_tswl 2 126 rfl c1e (by decide) (by decide) rfl rfl (pv_aload rfl rfl   (pn_getI rfl rfl (oX1_k (oX10_12c (oX11_4c hp0))) rfl   (pv_ireti rfl rfl (H.2.2.1 c1e)))))) (fun c1n1 => (Or.elim (Decidable.em (h = 3)) (fun c1e => (pn_tswl 3 132 rfl c1e (by decide) (by decide) rfl rfl (pv_aload rfl rfl   (pn_getI rfl rfl (oX1_k (oX10_12c (oX11_4c hp0))) rfl   (pv_ireti rfl rfl (H.2.2.2.1 c1e)))))) (fun c1n2 => (Or.elim (Decidable.em (h = 4)) (fun c1e => (pn_tswl 4 138 rfl c1e (by decide) (by decide) rfl rfl (pv_aload rfl rfl   (pn_getZ rfl rfl (oX1_k (oX10_12c (oX11_4c hp0))) rfl   (pn_if_eq rfl (H.2.2.2.2.1 c1e).1 (fun c2 => (pn_iconst rfl rfl   (pv_ireti rfl rfl ((H.2.2.2.2.1 c1e).2.1 c2)))) (fun c2 => (pn_iconst rfl rfl   (pv_goto rfl (pv_ireti rfl rfl ((H.2.2.2.2.1 c1e).2.2 c2)))))))))) (fun c1n3 => (have c1d : h < 1 ∨ 4 < h := (by omega); pn_tswlD 1 4 152 rfl rfl rfl (by decide) H.1 c1d rfl (pv_aload rfl rfl   (pv_getP rfl rfl (oX1_k (oX10_12c (oX11_4c hp0))) (oX1_6 (oX10_12c (oX11_4c hp0)))   (pv_iload_n rfl rfl   (pn_iconst rfl rfl   (pn_isub rfl (H.2.2.2.2.2 c1d).1  (pn_bipush rfl rfl   (pn_iandm 3 8 rfl rfl rfl   (pn_iald rfl (oX1_6c (oX10_12c (oX11_4c hp0))) (by decide) (H.2.2.2.2.2 c1d).2.1 rfl (pv_ireti rfl rfl (H.2.2.2.2.2 c1d).2.2)))))))))))))))))))
theorem c_done_p {X : gv_X} {d : Nat} {G : gv_Sh} {A : Nat → Nat → Nat} {j : Nat → Nat → Int64} {cc : gv_Rs} {P : gv_O × gv_S → Prop} {p : Nat} {s : Nat} {h : Nat} {R : Nat → Nat} (hp0 : oX11 G 0) (p0 : cK A R) (p1 : p < 4294967296) (p2 : s < 4294967296) (p3 : h < 4294967296) (hP : ∀ A1 : Nat → Nat → Nat, (cK A1 R) ∧ (frK A A1) → P (oc (fun c => if c = 1 then 1 else if c = 2 then 0 else 3) (spDone R p s h).1 (spDone R p s h).2 (G, (mI A1, j), cc))) : EvP X (d + 3) gvm_125 0 (gv_enter [.ref 0, .int (nI p), .int (nI s), .int (nI h)] 6) [] (G, (mI A, j), cc) P := by
  have ok : ∀ B x, cK B R ∧ frK A B → spDone R p s h = (0, x) → P (.inl (some (.int (nI x))), (G, (mI B, j), cc)) := fun B x h1 h3 => by
    have := hP B h1
    rw [h3] at this
    exact this
  have no1 : ∀ B, cK B R ∧ frK A B → spDone R p s h = (1, 0) → P (.inr 1, gv_ex (G, (mI B, j), cc)) := fun B h1 h3 => by
    have := hP B h1
    rw [h3] at this
    exact this
  have no2 : ∀ B, cK B R ∧ frK A B → spDone R p s h = (2, 0) → P (.inr 0, gv_ex (G, (mI B, j), cc)) := fun B h1 h3 => by
    have := hP B h1
    rw [h3] at this
    exact this
  have no3 : ∀ B, cK B R ∧ frK A B → spDone R p s h = (3, 0) → P (.inr 3, gv_ex (G, (mI B, j), cc)) := fun B h1 h3 => by
    have := hP B h1
    rw [h3] at this
    exact this
  have n := okW_n p0.1
  have ro : rO A 3 R := p0.2.1.1
  have e0 : A 3 0 = R 0 := ro.1
  have K : cK A R ∧ frK A A := ⟨p0, frK_rf A⟩
  have KB : ∀ B, (∀ q, q ≠ 26 → q ≠ 27 → B q = A q) → cK B R ∧ frK A B := fun B f => ⟨⟨p0.1, rW_fr p0.2.1 (fun q a b => f q (by omega) (by omega)), knI_of p0.2.2.1 (f 55 (by omega) (by omega)), p0.2.2.2.1, rRu_of p0.2.2.2.2.1 (fun q a b => f q (by omega) (by omega)), smI_of p0.2.2.2.2.2 (f 61 (by omega) (by omega))⟩, fun q a b c => f q (by omega) (by omega)⟩
  refine w125 hp0 ⟨p1, rO_n ro p0.1, fun d1 => ⟨p2, fun d2 => ⟨p3, fun d3 => ⟨by omega, fun B h4 => ?_⟩, fun d3 => no3 A K (by unfold spDone; rw [if_neg (by omega), if_neg (by omega), if_pos (by omega)])⟩, fun d2 => no2 A K (by unfold spDone; rw [if_neg (by omega), if_pos (by omega)])⟩, fun d1 => no1 A K (by unfold spDone; rw [if_pos (by omega)])⟩
  have fB : ∀ q, q ≠ 26 → q ≠ 27 → B q = A q := fun q a b => h4.2.1 q a b
  have rB : rO B 3 R := (KB B fB).1.2.1.1
  have b2 : B 26 2 = s / 4 % 2 := h4.1.2.1
  have hp : p < R 0 := by omega
  have ok0 : okM (stM s (s / 4 % 2) (2 * (s / 8 % 4)) 0 0) := okM_st (by omega) (by omega) (by omega) (by omega)
  have cnd : (B 26 2 = 0 ∧ p < B 3 0 ∧ B (3 + 4) p = 1) ↔ trp R p (s / 4 % 2) = true := by
    unfold trp
    rw [Bool.and_eq_true, decide_eq_true_eq, decide_eq_true_eq, b2]
    exact ⟨fun y => ⟨(rO_gd rB hp).mp y.2, y.1⟩, fun y => ⟨y.2, (rO_gd rB hp).mpr y.1⟩⟩
  have sd : ∀ V, (if h = 0 then (if trp R p (s / 4 % 2) = true then 1 else 0) else if trp R p (s / 4 % 2) = true then 4294967295 else if h = 1 then (mOp 0 R p (stM s (s / 4 % 2) (2 * (s / 8 % 4)) 0 0)).1 else if h = 2 then (mOp 0 R p (stM s (s / 4 % 2) (2 * (s / 8 % 4)) 0 0)).2.1 else if h = 3 then (mOp 0 R p (stM s (s / 4 % 2) (2 * (s / 8 % 4)) 0 0)).2.2.1 else if h = 4 then (mOp 0 R p (stM s (s / 4 % 2) (2 * (s / 8 % 4)) 0 0)).2.2.2.2.1 else (mOp 0 R p (stM s (s / 4 % 2) (2 * (s / 8 % 4)) 0 0)).2.2.2.2.2 (h - 5)) = V → spDone R p s h = (0, V) := fun V e => by
    unfold spDone; rw [if_neg (by omega), if_neg (by omega), if_neg (by omega)]
    exact congrArg (Prod.mk 0) e
  refine w125_36 hp0 ⟨by omega, by omega, rO_n rB p0.1, rO_g rB p0.1, w125_54 hp0 ⟨p3, fun c1 => ⟨fun c2 => ?_, fun c2 => ok B _ (KB B fB) (sd _ ?_)⟩, fun c1 => ⟨fun c3 => ok B _ (KB B fB) (sd _ ?_), fun c3 => ok B _ (KB B fB) (sd _ ?_)⟩⟩⟩
  · have tf : ¬ trp R p (s / 4 % 2) = true := fun y => of_decide_eq_false c2 (cnd.mpr y)
    refine w125_76 hp0 ⟨p1, rO_n rB p0.1, rO_s rB p0.1, rO_7 rB p0.1, by decide, okM_eq h4.1 ok0, fun C h1 => ?_⟩
    have q : eqM (cM C 26) (mOp 0 R p (stM s (s / 4 % 2) (2 * (s / 8 % 4)) 0 0)) := by rw [h1.1, rO_pf rB hp]; exact eqM_op (eqM_0 h4.1)
    have oM := okM_eq q (okM_op p0.1 (by omega) ok0)
    have fC : ∀ q, q ≠ 26 → q ≠ 27 → C q = A q := fun q a b => (h1.2.1 q a b).trans (fB q a b)
    have k5 : C 26 5 ≤ 1 := oM.2.2.2.2.1
    refine w125_90 hp0 ⟨p3, fun d4 => ok C _ (KB C fC) (sd _ ?_), fun d4 => ok C _ (KB C fC) (sd _ ?_), fun d4 => ok C _ (KB C fC) (sd _ ?_), fun d4 => ⟨by omega, fun d5 => ok C _ (KB C fC) (sd _ ?_), fun d5 => ok C _ (KB C fC) (sd _ ?_)⟩, fun d4 => ⟨by omega, by omega, ok C _ (KB C fC) (sd _ ?_)⟩⟩
    · rw [if_neg c1, if_neg tf, if_pos d4]; exact q.1.symm
    · rw [if_neg c1, if_neg tf, if_neg (by omega), if_pos d4]; exact q.2.1.symm
    · rw [if_neg c1, if_neg tf, if_neg (by omega), if_neg (by omega), if_pos d4]; exact q.2.2.1.symm
    · rw [if_neg c1, if_neg tf, if_neg (by omega), if_neg (by omega), if_neg (by omega), if_pos d4]; exact q.2.2.2.2.1.symm.trans d5
    · rw [if_neg c1, if_neg tf, if_neg (by omega), if_neg (by omega), if_neg (by omega), if_pos d4]; exact q.2.2.2.2.1.symm.trans (show C 26 5 = 1 by omega)
    · rw [if_neg c1, if_neg tf, if_neg (by omega), if_neg (by omega), if_neg (by omega), if_neg (by omega)]
      rw [Nat.mod_eq_of_lt (show h - 5 < 8 by omega)]
      exact (q.2.2.2.2.2 (h - 5) (by omega)).symm
  · rw [if_neg c1, if_pos (cnd.mp (of_decide_eq_true c2))]
  · rw [if_pos c1, if_neg (fun y => of_decide_eq_false c3 (cnd.mpr y))]
  · rw [if_pos c1, if_pos (cnd.mp (of_decide_eq_true c3))]
theorem w190 {X : gv_X} {d : Nat} {G : gv_Sh} {A : Nat → Nat → Nat} {j : Nat → Nat → Int64} {cc : gv_Rs} {P : gv_O × gv_S → Prop} {h : Nat} (hp0 : oX11 G 0) (H : (h < 4294967296) ∧ ((h = 0 → P (.inl (some (.int (nI (A 3 0)))), (G, (mI A, j), cc))) ∧ (h = 1 → P (.inl (some (.int (nI (A 2 11)))), (G, (mI A, j), cc))) ∧ (h = 2 → ((A 48 0) < 4294967296) ∧ ((((A 48 0) = 0) → P (.inl (some (.int (nI 4294967295))), (G, (mI A, j), cc))) ∧ ((¬ (A 48 0) = 0) → P (.inl (some (.int (nI (A 48 1)))), (G, (mI A, j), cc))))) ∧ (h = 3 → P (.inl (some (.int (nI (A 2 2)))), (G, (mI A, j), cc))) ∧ (h = 4 → P (.inl (some (.int (nI (A 2 4)))), (G, (mI A, j), cc))) ∧ (h = 5 → ((A 2 5) < 2147483648) ∧ (P (.inl (some (.int (nI ((A 2 5) / 2)))), (G, (mI A, j), cc)))) ∧ (h = 6 → P (.inl (some (.int (nI (A 2 6)))), (G, (mI A, j), cc))) ∧ (h = 7 → P (.inl (some (.int (nI (A 2 7)))), (G, (mI A, j), cc))) ∧ (h = 8 → P (.inl (some (.int (nI (A 2 8)))), (G, (mI A, j), cc))) ∧ (h = 9 → P (.inl (some (.int (nI (A 2 9)))), (G, (mI A, j), cc))) ∧ (h = 10 → P (.inl (some (.int (nI (A 15 0)))), (G, (mI A, j), cc))) ∧ (h = 11 → P (.inl (some (.int (nI (A 76 1)))), (G, (mI A, j), cc))) ∧ ((h < 0 ∨ 11 < h) → P (.inl (some (.int (nI 4294967295))), (G, (mI A, j), cc))))) : EvP X (d + 0) gvm_190 0 (gv_enter [.ref 0, .int (nI h)] 2) [] (G, (mI A, j), cc) P :=
  (pv_iload_n rfl rfl   (Or.elim (Decidable.em (h = 0)) (fun c1e => (pn_tswl 0 64 rfl c1e (by decide) (by decide) rfl rfl (pv_aload_n rfl rfl   (pv_getP rfl rfl (oX11_k hp0) (oX11_3 hp0)   (pv_getP rfl rfl (oX10_k (oX11_3c hp0)) (oX10_0 (oX11_3c hp0))   (pn_getI rfl rfl (oX6_k (oX10_0c (oX11_3c hp0))) rfl   (pv_ireti rfl rfl (H.2.1 c1e)))))))) (fun c1n0 => (Or.elim (Decidable.em (h = 1)) (fun c1e => (pn_tswl 1 75 rfl c1e (by decide) (by decide) rfl rfl (pv_aload_n rfl rfl   (pv_getP rfl rfl (oX11_k hp0) (oX11_3 hp0)   (pn_getI rfl rfl (oX10_k (oX11_3c hp0)) rfl   (pv_ireti rfl rfl (H.2.2.1 c1e))))))) (fun c1n1 => (Or.elim (Decidable.em (h = 2)) (fun c1e => (pn_tswl 2 83 rfl c1e (by decide) (by decide) rfl rfl (pv_aload_n rfl rfl   (pv_getP rfl rfl (oX11_k hp0) (oX11_7 hp0)   (pv_getP rfl rfl (oX4_k (oX11_7c hp0)) (oX4_0 (oX11_7c hp0))   (pn_getZ rfl rfl (oX8_k (oX4_0c (oX11_7c hp0))) rfl   (pn_if_eq rfl (H.2.2.2.1 c1e).1 (fun c2 => (pn_iconst (u := 4294967295) rfl (by decide)   (pv_ireti rfl rfl ((H.2.2.2.1 c1e).2.1 c2)))) (fun c2 => (pv_aload_n rfl rfl   (pv_getP rfl rfl (oX11_k hp0) (oX11_7 hp0)   (pv_getP rfl rfl (oX4_k (oX11_7c hp0)) (oX4_0 (oX11_7c hp0))   (pn_getI rfl rfl (oX8_k (oX4_0c (oX11_7c hp0))) rfl   (pv_goto rfl (pv_ireti rfl rfl ((H.2.2.2.1 c1e).2.2 c2))))))))))))))) (fun c1n2 => (Or.elim (Decidable.em (h = 3)) (fun c1e => (pn_tswl 3 111 rfl c1e (by decide) (by decide) rfl rfl (pv_aload_n rfl rfl   (pv_getP rfl rfl (oX11_k hp0) (oX11_3 hp0)   (pn_getI rfl rfl (oX10_k (oX11_3c hp0)) rfl   (pv_ireti rfl rfl (H.2.2.2.2.1 c1e))))))) (fun c1n3 => (Or.elim (Decidable.em (h = 4)) (fun c1e => (pn_tswl 4 119 rfl c1e (by decide) (by decide) rfl rfl (pv_aload_n rfl rfl   (pv_getP rfl rfl (oX11_k hp0) (oX11_3 hp0)   (pn_getI rfl rfl (oX10_k (oX11_3c hp0)) rfl   (pv_ireti rfl rfl (H.2.2.2.2.2.1 c1e))))))) (fun c1n4 => (Or.elim (Decidable.em (h = 5)) (fun c1e => (pn_tswl 5 127 rfl c1e (by decide) (by decide) rfl rfl (pv_aload_n rfl rfl   (pv_getP rfl rfl (oX11_k hp0) (oX11_3 hp0)   (pn_getI rfl rfl (oX10_k (oX11_3c hp0)) rfl   (pn_iconst rfl rfl   (pn_idiv rfl (H.2.2.2.2.2.2.1 c1e).1 (by decide) (by decide)  (pv_ireti rfl rfl (H.2.2.2.2.2.2.1 c1e).2)))))))) (fun c1n5 => (Or.elim (Decidable.em (h = 6)) (fun c1e => (pn_tswl 6 137 rfl c1e (by decide) (by decide) rfl rfl (pv_aload_n rfl rfl   (pv_getP rfl rfl (oX11_k hp0) (oX11_3 hp0)   (pn_getI rfl rfl (oX10_k (oX11_3c hp0)) rfl   (pv_ireti rfl rfl (H.2.2.2.2.2.2.2.1 c1e))))))) (fun c1n6 => (Or.elim (Decidable.em (h = 7)) (fun c1e => (pn_tswl 7 145 rfl c1e (by decide) (by decide) rfl rfl (pv_aload_n rfl rfl   (pv_getP rfl rfl (oX11_k hp0) (oX11_3 hp0)   (pn_getI rfl rfl (oX10_k (oX11_3c hp0)) rfl   (pv_ireti rfl rfl (H.2.2.2.2.2.2.2.2.1 c1e))))))) (fun c1n7 => (Or.elim (Decidable.em (h = 8)) (fun c1e => (pn_tswl 8 153 rfl c1e (by decide) (by decide) rfl rfl (pv_aload_n rfl rfl   (pv_getP rfl rfl (oX11_k hp0) (oX11_3 hp0)   (pn_getI rfl rfl (oX10_k (oX11_3c hp0)) rfl   (pv_ireti rfl rfl (H.2.2.2.2.2.2.2.2.2.1 c1e))))))) (fun c1n8 => (Or.elim (Decidable.em (h = 9)) (fun c1e => (pn_tswl 9 161 rfl c1e (by decide) (by decide) rfl rfl (pv_aload_n rfl rfl   (pv_getP rfl rfl (oX11_k hp0) (oX11_3 hp0)   (pn_getI rfl rfl (oX10_k (oX11_3c hp0)) rfl   (pv_ireti rfl rfl (H.2.2.2.2.2.2.2.2.2.2.1 c1e))))))) (fun c1n9 => (Or.elim (Decidable.em (h = 10)) (fun c1e => (pn_tswl 10 169 rfl c1e (by decide) (by decide) rfl rfl (pv_aload_n rfl rfl   (pv_getP rfl rfl (oX11_k hp0) (oX11_3 hp0)   (pv_getP rfl rfl (oX10_k (oX11_3c hp0)) (oX10_14 (oX11_3c hp0))   (pn_getI rfl rfl (oX5_k (oX10_14c (oX11_3c hp0))) rfl   (pv_ireti rfl rfl (H.2.2.2.2.2.2.2.2.2.2.2.1 c1e)))))))) (fun c1n10 => (Or.elim (Decidable.em (h = 11)) (fun c1e => (pn_tswl 11 180 rfl c1e (by decide) (by decide) rfl rfl (pv_aload_n rfl rfl   (pv_getP rfl rfl (oX11_k hp0) (oX11_10 hp0)   (pn_getI rfl rfl (oX2_k (oX11_10c hp0)) rfl   (pv_ireti rfl rfl (H.2.2.2.2.2.2.2.2.2.2.2.2.1 c1e))))))) (fun c1n11 => (have c1d : h < 0 ∨ 11 < h := (by omega); pn_tswlD 0 11 188 rfl rfl rfl (by decide) H.1 c1d rfl (pn_iconst (u := 4294967295) rfl (by decide)   (pv_ireti rfl rfl (H.2.2.2.2.2.2.2.2.2.2.2.2.2 c1d)))))))))))))))))))))))))))))
theorem c_count_p {X : gv_X} {d : Nat} {G : gv_Sh} {A : Nat → Nat → Nat} {j : Nat → Nat → Int64} {cc : gv_Rs} {P : gv_O × gv_S → Prop} {h : Nat} {R : Nat → Nat} (hp0 : oX11 G 0) (p0 : cK A R) (p1 : h < 4294967296) (hP : P (.inl (some (.int (nI (spCount R (A 76 1) h)))), (G, (mI A, j), cc))) : EvP X (d + 0) gvm_190 0 (gv_enter [.ref 0, .int (nI h)] 2) [] (G, (mI A, j), cc) P := by
  have n := okW_n p0.1
  have ro : rO A 3 R := p0.2.1.1
  have r4 : rN A 2 R := p0.2.1.2.2.2.1
  have ru := p0.2.2.2.2.1
  have u0 : A 48 0 = R 2 := ru.1
  have e5 : A 2 5 = R 5 := r4.2.1
  refine w190 hp0  ⟨by omega, ⟨fun c1 => ?_, fun c1 => ?_, fun c1 => ⟨by omega, ⟨fun c2 => ?_, fun c2 => ?_⟩⟩, fun c1 => ?_, fun c1 => ?_, fun c1 => ⟨by omega, ?_⟩, fun c1 => ?_, fun c1 => ?_, fun c1 => ?_, fun c1 => ?_, fun c1 => ?_, fun c1 => ?_, fun c1 => ?_⟩⟩
  · subst c1; exact qn hP (show R 0 = _ from (show _ = R 0 from ro.1).symm)
  · subst c1; exact qn hP (show R 1 = _ from (show _ = R 1 from r4.2.2.2.2.2.2.2).symm)
  · subst c1; exact qn hP (show (if R 2 = 1 then R 368 else 4294967295) = 4294967295 from if_neg (by rw [u0] at c2; omega))
  · subst c1; exact qn hP (show (if R 2 = 1 then R 368 else 4294967295) = A 48 1 from (if_pos (by rw [u0] at c2; omega)).trans (ru.2.2 (by rw [u0] at c2; omega)).1.symm)
  · subst c1; exact qn hP (show R 3 = _ from (show _ = R 3 from p0.2.1.2.1.1).symm)
  · subst c1; exact qn hP (show R 4 = _ from (show _ = R 4 from r4.1).symm)
  · subst c1; exact qn hP (show R 5 / 2 = A 2 5 / 2 by rw [show A 2 5 = R 5 from r4.2.1])
  · subst c1; exact qn hP (show R 6 = _ from (show _ = R 6 from r4.2.2.1).symm)
  · subst c1; exact qn hP (show R 7 = _ from (show _ = R 7 from r4.2.2.2.1).symm)
  · subst c1; exact qn hP (show R 8 = _ from (show _ = R 8 from r4.2.2.2.2.1).symm)
  · subst c1; exact qn hP (show R 9 = _ from (show _ = R 9 from r4.2.2.2.2.2.1).symm)
  · subst c1; exact qn hP (show R 10 = _ from (show _ = R 10 from p0.2.1.2.2.2.2.2.2.1).symm)
  · subst c1; exact hP
  · refine qn hP ?_
    unfold spCount
    rw [if_neg (by omega), if_neg (by omega), if_neg (by omega), if_neg (by omega)]
theorem c_count {X : gv_X} {d : Nat} {G : gv_Sh} {A : Nat → Nat → Nat} {j : Nat → Nat → Int64} {cc : gv_Rs} {h : Nat} {R : Nat → Nat} (hp0 : oX11 G 0) (p0 : cK A R) (p1 : h < 4294967296) : Ev X (d + 0) gvm_190 0 (gv_enter [.ref 0, .int (nI h)] 2) [] (G, (mI A, j), cc) (.inl (some (.int (nI (spCount R (A 76 1) h)))), (G, (mI A, j), cc)) := evp_det (c_count_p hp0 p0 p1 rfl)
theorem w153 {X : gv_X} {d : Nat} {G : gv_Sh} {A : Nat → Nat → Nat} {j : Nat → Nat → Int64} {cc : gv_Rs} {P : gv_O × gv_S → Prop}  (hp0 : oX11 G 0) (H : EvP X (d + 6) gvm_153 11 [some (.ref 0), none, none] [.ref 2, .ref 54] (G, (mI A, j), cc) P) : EvP X (d + 6) gvm_153 0 (gv_enter [.ref 0] 3) [] (G, (mI A, j), cc) P :=
  (pv_aload_n rfl rfl   (pv_getP rfl rfl (oX11_k hp0) (oX11_7 hp0)   (pv_getP rfl rfl (oX4_k (oX11_7c hp0)) (oX4_1 (oX11_7c hp0))   (pv_aload_n rfl rfl   (pv_getP rfl rfl (oX11_k hp0) (oX11_3 hp0)   H)))))
theorem w153_11 {X : gv_X} {d : Nat} {G : gv_Sh} {A : Nat → Nat → Nat} {j : Nat → Nat → Int64} {cc : gv_Rs} {P : gv_O × gv_S → Prop} {R : Nat → Nat} (hp0 : oX11 G 0) (H : (okW R) ∧ ((rO A 3 R) ∧ ((3 + 6 ≤ 54) ∧ ((knI A R) ∧ ((∀ A1v1 : Nat → Nat → Nat, ((stT A1v1 R) ∧ (knI A1v1 R) ∧ (frZ A A1v1)) → EvP X (d + 6) gvm_153 21 [some (.ref 0), some (.int (nI 0)), some (.int (nI 0))] [] (G, (mI A1v1, j), cc) P)))))) : EvP X (d + 6) gvm_153 11 [some (.ref 0), none, none] [.ref 2, .ref 54] (G, (mI A, j), cc) P :=
  (pv_getP rfl rfl (oX10_k (oX11_3c hp0)) (oX10_0 (oX11_3c hp0))   (match (c_learn (R := R) (A := A) (X := X) (d := d + 0) (G := G) (j := j) (cc := cc) (oX4_1c (oX11_7c hp0)) (oX10_0c (oX11_3c hp0)) H.1 H.2.1 H.2.2.1 H.2.2.2.1 ) with | ⟨A1v1, e1x14, h1⟩ => pv_virt rfl rfl rfl rfl rfl (oX9_k (oX4_1c (oX11_7c hp0))) rfl rfl rfl e1x14 (pn_iconst rfl rfl   (pv_istore_n rfl rfl   (pn_iconst rfl rfl   (pv_istore_n rfl rfl   (H.2.2.2.2 A1v1 h1)))))))
theorem w153_21 {X : gv_X} {d : Nat} {G : gv_Sh} {A : Nat → Nat → Nat} {j : Nat → Nat → Int64} {cc : gv_Rs} {P : gv_O × gv_S → Prop} {l1 : Nat} {l2 : Nat} {R : Nat → Nat} (hp0 : oX11 G 0) (H : (l2 < 2147483648) ∧ (((A 3 0) < 2147483648) ∧ ((((A 3 0) ≤ l2) → P (.inl (some (.int (nI l1))), (G, (mI A, j), cc))) ∧ ((l2 < (A 3 0)) → (cQ A R) ∧ ((l2 < R 0) ∧ (((¬ (¬ tbF R l2 % 8 = 0)) → EvP X (d + 6) gvm_153 21 [some (.ref 0), some (.int (nI l1)), some (.int (nI (l2 + 1)))] [] (G, (mI A, j), cc) P) ∧ ((¬ tbF R l2 % 8 = 0) → (l2 < 4294967296) ∧ ((A 3 0 ≤ 8) ∧ ((∀ z, z < A 3 0 → A (3 + 4) z ≤ 1) ∧ (((l2 < A 3 0 ∧ A (3 + 4) l2 = 1) → EvP X (d + 6) gvm_153 21 [some (.ref 0), some (.int (nI l1)), some (.int (nI (l2 + 1)))] [] (G, (mI A, j), cc) P) ∧ ((¬ (l2 < A 3 0 ∧ A (3 + 4) l2 = 1)) → EvP X (d + 6) gvm_153 21 [some (.ref 0), some (.int (nI (l1 + 1))), some (.int (nI (l2 + 1)))] [] (G, (mI A, j), cc) P))))))))))) : EvP X (d + 6) gvm_153 21 [some (.ref 0), some (.int (nI l1)), some (.int (nI l2))] [] (G, (mI A, j), cc) P :=
  (pv_iload_n rfl rfl   (pv_aload_n rfl rfl   (pv_getP rfl rfl (oX11_k hp0) (oX11_3 hp0)   (pv_getP rfl rfl (oX10_k (oX11_3c hp0)) (oX10_0 (oX11_3c hp0))   (pn_getI rfl rfl (oX6_k (oX10_0c (oX11_3c hp0))) rfl   (pn_ic_ge rfl H.1 H.2.1 (fun c1 => (pv_iload_n rfl rfl   (pv_ireti rfl rfl (H.2.2.1 c1)))) (fun c1 => (pv_aload_n rfl rfl   (pv_iload_n rfl rfl   (pv_virt rfl rfl rfl rfl rfl (oX11_k hp0) rfl rfl rfl (c_gisSens (p := l2) (R := R) (A := A) hp0 (H.2.2.2 c1).1 (H.2.2.2 c1).2.1 ) (pv_if_eq_dc rfl  (fun c2 => (pn_iinc rfl rfl rfl rfl   (pv_goto rfl ((H.2.2.2 c1).2.2.1 c2)))) (fun c2 => (pv_aload_n rfl rfl   (pv_getP rfl rfl (oX11_k hp0) (oX11_3 hp0)   (pv_getP rfl rfl (oX10_k (oX11_3c hp0)) (oX10_0 (oX11_3c hp0))   (pv_iload_n rfl rfl   (pv_virt rfl rfl rfl rfl rfl (oX6_k (oX10_0c (oX11_3c hp0))) rfl rfl rfl (c_isGuarded (p := l2) (A := A) (oX10_0c (oX11_3c hp0)) ((H.2.2.2 c1).2.2.2 c2).1 ((H.2.2.2 c1).2.2.2 c2).2.1 ((H.2.2.2 c1).2.2.2 c2).2.2.1 ) (pv_if_ne_dc rfl  (fun c3 => (pn_iinc rfl rfl rfl rfl   (pv_goto rfl (((H.2.2.2 c1).2.2.2 c2).2.2.2.1 c3)))) (fun c3 => (pn_iinc rfl rfl rfl rfl   (pn_iinc rfl rfl rfl rfl   (pv_goto rfl (((H.2.2.2 c1).2.2.2 c2).2.2.2.2 c3)))))))))))))))))))))))
theorem c_open_p {X : gv_X} {d : Nat} {G : gv_Sh} {A : Nat → Nat → Nat} {j : Nat → Nat → Int64} {cc : gv_Rs} {P : gv_O × gv_S → Prop} {R : Nat → Nat} (hp0 : oX11 G 0) (p0 : cK A R) (hP : ∀ A1 : Nat → Nat → Nat, (cK A1 R) ∧ (frK A A1) → P (.inl (some (.int (nI (cntN (opnB R) (R 0))))), (G, (mI A1, j), cc))) : EvP X (d + 6) gvm_153 0 (gv_enter [.ref 0] 3) [] (G, (mI A, j), cc) P := by
  have n := okW_n p0.1
  refine w153 hp0 (w153_11 (R := R) hp0 ⟨p0.1, p0.2.1.1, by decide, p0.2.2.1, fun B h1 => ?_⟩)
  obtain ⟨hQ, hf⟩ := cK_Z p0 h1.1 h1.2.1 h1.2.2
  have ro : rO B 3 R := hQ.2.1.1
  have e0 : B 3 0 = R 0 := ro.1
  have Lp : ∀ i k, k + i = R 0 → EvP X (d + 6) gvm_153 21 [some (.ref 0), some (.int (nI (cntN (opnB R) k))), some (.int (nI k))] [] (G, (mI B, j), cc) P := by
    intro i
    induction i with
    | zero =>
      intro k hk
      obtain rfl : k = R 0 := by omega
      exact w153_21 (R := R) hp0 ⟨by omega, by omega, fun c1 => hP B ⟨cQ_K hQ, hf⟩, fun c1 => absurd c1 (by omega)⟩
    | succ i ih =>
      intro k hk
      have ih := ih (k + 1) (by omega)
      have hk0 : k < R 0 := by omega
      have og := (okW_o p0.1 (p := k) (by omega)).2.1
      rw [show cntN (opnB R) (k + 1) = cntN (opnB R) k + (opnB R k).toNat from rfl] at ih
      unfold opnB at ih
      refine w153_21 (R := R) hp0 ⟨by omega, by omega, fun c1 => absurd c1 (by omega), fun c1 => ⟨hQ, hk0, fun c2 => ?_, fun c2 => ⟨by omega, rO_n ro p0.1, rO_g ro p0.1, fun c3 => ?_, fun c3 => ?_⟩⟩⟩
      · rw [decide_eq_false c2] at ih; exact ih
      · have g := (rO_gd ro hk0).mp c3
        rw [decide_eq_false (show ¬ R (30 + 9 * k + 1) = 0 by omega), Bool.and_false] at ih; exact ih
      · have g : ¬ R (30 + 9 * k + 1) = 1 := fun y => c3 ((rO_gd ro hk0).mpr y)
        rw [decide_eq_true c2, decide_eq_true (show R (30 + 9 * k + 1) = 0 by omega)] at ih; exact ih
  exact Lp (R 0) 0 (Nat.zero_add _)
theorem c_open {X : gv_X} {d : Nat} {G : gv_Sh} {A : Nat → Nat → Nat} {j : Nat → Nat → Int64} {cc : gv_Rs} {R : Nat → Nat} (hp0 : oX11 G 0) (p0 : cK A R) : ∃ A1 : Nat → Nat → Nat, Ev X (d + 6) gvm_153 0 (gv_enter [.ref 0] 3) [] (G, (mI A, j), cc) (.inl (some (.int (nI (cntN (opnB R) (R 0))))), (G, (mI A1, j), cc)) ∧ (cK A1 R) ∧ (frK A A1) := by
  obtain ⟨_, h, A1, rfl, hp⟩ := c_open_p (X := X) (d := d) (G := G) (A := A) (j := j) (cc := cc) (R := R) (P := fun r => ∃ A1 : Nat → Nat → Nat, r = (.inl (some (.int (nI (cntN (opnB R) (R 0))))), (G, (mI A1, j), cc)) ∧ (cK A1 R) ∧ (frK A A1)) hp0 p0 (fun A1 h => ⟨A1, rfl, h⟩)
  exact ⟨A1, h, hp⟩
theorem w147 {X : gv_X} {d : Nat} {G : gv_Sh} {A : Nat → Nat → Nat} {j : Nat → Nat → Int64} {cc : gv_Rs} {P : gv_O × gv_S → Prop}  (hp0 : oX11 G 0) (H : EvP X (d + 6) gvm_147 11 [some (.ref 0), none, none] [.ref 2, .ref 54] (G, (mI A, j), cc) P) : EvP X (d + 6) gvm_147 0 (gv_enter [.ref 0] 3) [] (G, (mI A, j), cc) P :=
  (pv_aload_n rfl rfl   (pv_getP rfl rfl (oX11_k hp0) (oX11_7 hp0)   (pv_getP rfl rfl (oX4_k (oX11_7c hp0)) (oX4_1 (oX11_7c hp0))   (pv_aload_n rfl rfl   (pv_getP rfl rfl (oX11_k hp0) (oX11_3 hp0)   H)))))
theorem w147_11 {X : gv_X} {d : Nat} {G : gv_Sh} {A : Nat → Nat → Nat} {j : Nat → Nat → Int64} {cc : gv_Rs} {P : gv_O × gv_S → Prop} {R : Nat → Nat} (hp0 : oX11 G 0) (H : (okW R) ∧ ((rO A 3 R) ∧ ((3 + 6 ≤ 54) ∧ ((knI A R) ∧ ((∀ A1v1 : Nat → Nat → Nat, ((stT A1v1 R) ∧ (knI A1v1 R) ∧ (frZ A A1v1)) → EvP X (d + 6) gvm_147 21 [some (.ref 0), some (.int (nI 0)), some (.int (nI 0))] [] (G, (mI A1v1, j), cc) P)))))) : EvP X (d + 6) gvm_147 11 [some (.ref 0), none, none] [.ref 2, .ref 54] (G, (mI A, j), cc) P :=
  (pv_getP rfl rfl (oX10_k (oX11_3c hp0)) (oX10_0 (oX11_3c hp0))   (match (c_learn (R := R) (A := A) (X := X) (d := d + 0) (G := G) (j := j) (cc := cc) (oX4_1c (oX11_7c hp0)) (oX10_0c (oX11_3c hp0)) H.1 H.2.1 H.2.2.1 H.2.2.2.1 ) with | ⟨A1v1, e1x14, h1⟩ => pv_virt rfl rfl rfl rfl rfl (oX9_k (oX4_1c (oX11_7c hp0))) rfl rfl rfl e1x14 (pn_iconst rfl rfl   (pv_istore_n rfl rfl   (pn_iconst rfl rfl   (pv_istore_n rfl rfl   (H.2.2.2.2 A1v1 h1)))))))
theorem w147_21 {X : gv_X} {d : Nat} {G : gv_Sh} {A : Nat → Nat → Nat} {j : Nat → Nat → Int64} {cc : gv_Rs} {P : gv_O × gv_S → Prop} {l1 : Nat} {l2 : Nat} {R : Nat → Nat} (hp0 : oX11 G 0) (H : (l2 < 2147483648) ∧ (((A 3 0) < 2147483648) ∧ ((((A 3 0) ≤ l2) → P (.inl (some (.int (nI l1))), (G, (mI A, j), cc))) ∧ ((l2 < (A 3 0)) → (cQ A R) ∧ ((l2 < R 0) ∧ (((¬ (¬ tbF R l2 % 8 = 0)) → EvP X (d + 6) gvm_147 21 [some (.ref 0), some (.int (nI l1)), some (.int (nI (l2 + 1)))] [] (G, (mI A, j), cc) P) ∧ ((¬ tbF R l2 % 8 = 0) → (l2 < 4294967296) ∧ ((A 3 0 ≤ 8) ∧ ((∀ z, z < A 3 0 → A (3 + 4) z ≤ 1) ∧ (((l2 < A 3 0 ∧ A (3 + 4) l2 = 1) → EvP X (d + 6) gvm_147 21 [some (.ref 0), some (.int (nI l1)), some (.int (nI (l2 + 1)))] [] (G, (mI A, j), cc) P) ∧ ((¬ (l2 < A 3 0 ∧ A (3 + 4) l2 = 1)) → (l2 < 4294967296) ∧ ((A 3 0 ≤ 8) ∧ ((∀ z, z < A 3 0 → A (3 + 5) z ≤ 1) ∧ (((l2 < A 3 0 ∧ A (3 + 5) l2 = 1) → EvP X (d + 6) gvm_147 21 [some (.ref 0), some (.int (nI l1)), some (.int (nI (l2 + 1)))] [] (G, (mI A, j), cc) P) ∧ ((¬ (l2 < A 3 0 ∧ A (3 + 5) l2 = 1)) → (l2 < 32) ∧ (EvP X (d + 6) gvm_147 21 [some (.ref 0), some (.int (nI (l1 ||| (2 ^ l2)))), some (.int (nI (l2 + 1)))] [] (G, (mI A, j), cc) P)))))))))))))))) : EvP X (d + 6) gvm_147 21 [some (.ref 0), some (.int (nI l1)), some (.int (nI l2))] [] (G, (mI A, j), cc) P :=
  (pv_iload_n rfl rfl   (pv_aload_n rfl rfl   (pv_getP rfl rfl (oX11_k hp0) (oX11_3 hp0)   (pv_getP rfl rfl (oX10_k (oX11_3c hp0)) (oX10_0 (oX11_3c hp0))   (pn_getI rfl rfl (oX6_k (oX10_0c (oX11_3c hp0))) rfl   (pn_ic_ge rfl H.1 H.2.1 (fun c1 => (pv_iload_n rfl rfl   (pv_ireti rfl rfl (H.2.2.1 c1)))) (fun c1 => (pv_aload_n rfl rfl   (pv_iload_n rfl rfl   (pv_virt rfl rfl rfl rfl rfl (oX11_k hp0) rfl rfl rfl (c_gisSens (p := l2) (R := R) (A := A) hp0 (H.2.2.2 c1).1 (H.2.2.2 c1).2.1 ) (pv_if_eq_dc rfl  (fun c2 => (pn_iinc rfl rfl rfl rfl   (pv_goto rfl ((H.2.2.2 c1).2.2.1 c2)))) (fun c2 => (pv_aload_n rfl rfl   (pv_getP rfl rfl (oX11_k hp0) (oX11_3 hp0)   (pv_getP rfl rfl (oX10_k (oX11_3c hp0)) (oX10_0 (oX11_3c hp0))   (pv_iload_n rfl rfl   (pv_virt rfl rfl rfl rfl rfl (oX6_k (oX10_0c (oX11_3c hp0))) rfl rfl rfl (c_isGuarded (p := l2) (A := A) (oX10_0c (oX11_3c hp0)) ((H.2.2.2 c1).2.2.2 c2).1 ((H.2.2.2 c1).2.2.2 c2).2.1 ((H.2.2.2 c1).2.2.2 c2).2.2.1 ) (pv_if_ne_dc rfl  (fun c3 => (pn_iinc rfl rfl rfl rfl   (pv_goto rfl (((H.2.2.2 c1).2.2.2 c2).2.2.2.1 c3)))) (fun c3 => (pv_aload_n rfl rfl   (pv_getP rfl rfl (oX11_k hp0) (oX11_3 hp0)   (pv_getP rfl rfl (oX10_k (oX11_3c hp0)) (oX10_0 (oX11_3c hp0))   (pv_iload_n rfl rfl   (pv_virt rfl rfl rfl rfl rfl (oX6_k (oX10_0c (oX11_3c hp0))) rfl rfl rfl (c_isPatched (p := l2) (A := A) (oX10_0c (oX11_3c hp0)) (((H.2.2.2 c1).2.2.2 c2).2.2.2.2 c3).1 (((H.2.2.2 c1).2.2.2 c2).2.2.2.2 c3).2.1 (((H.2.2.2 c1).2.2.2 c2).2.2.2.2 c3).2.2.1 ) (pv_if_ne_dc rfl  (fun c4 => (pn_iinc rfl rfl rfl rfl   (pv_goto rfl ((((H.2.2.2 c1).2.2.2 c2).2.2.2.2 c3).2.2.2.1 c4)))) (fun c4 => (pv_iload_n rfl rfl   (pn_iconst rfl rfl   (pv_iload_n rfl rfl   (pn_ishl1 rfl ((((H.2.2.2 c1).2.2.2 c2).2.2.2.2 c3).2.2.2.2 c4).1  (pn_ior rfl   (pv_istore_n rfl rfl   (pn_iinc rfl rfl rfl rfl   (pv_goto rfl ((((H.2.2.2 c1).2.2.2 c2).2.2.2.2 c3).2.2.2.2 c4).2))))))))))))))))))))))))))))))))))
theorem c_least_p {X : gv_X} {d : Nat} {G : gv_Sh} {A : Nat → Nat → Nat} {j : Nat → Nat → Int64} {cc : gv_Rs} {P : gv_O × gv_S → Prop} {R : Nat → Nat} (hp0 : oX11 G 0) (p0 : cK A R) (hP : ∀ A1 : Nat → Nat → Nat, (cK A1 R) ∧ (frK A A1) → P (.inl (some (.int (nI (bitN (leaB R) (R 0))))), (G, (mI A1, j), cc))) : EvP X (d + 6) gvm_147 0 (gv_enter [.ref 0] 3) [] (G, (mI A, j), cc) P := by
  have n := okW_n p0.1
  refine w147 hp0 (w147_11 (R := R) hp0 ⟨p0.1, p0.2.1.1, by decide, p0.2.2.1, fun B h1 => ?_⟩)
  obtain ⟨hQ, hf⟩ := cK_Z p0 h1.1 h1.2.1 h1.2.2
  have ro : rO B 3 R := hQ.2.1.1
  have e0 : B 3 0 = R 0 := ro.1
  have Lp : ∀ i k, k + i = R 0 → EvP X (d + 6) gvm_147 21 [some (.ref 0), some (.int (nI (bitN (leaB R) k))), some (.int (nI k))] [] (G, (mI B, j), cc) P := by
    intro i
    induction i with
    | zero =>
      intro k hk
      obtain rfl : k = R 0 := by omega
      exact w147_21 (R := R) hp0 ⟨by omega, by omega, fun c1 => hP B ⟨cQ_K hQ, hf⟩, fun c1 => absurd c1 (by omega)⟩
    | succ i ih =>
      intro k hk
      have ih := ih (k + 1) (by omega)
      have hk0 : k < R 0 := by omega
      have og := (okW_o p0.1 (p := k) (by omega)).2
      rw [show bitN (leaB R) (k + 1) = bitN (leaB R) k ||| (if leaB R k = true then 2 ^ k else 0) from rfl] at ih
      have no : leaB R k = false → EvP X (d + 6) gvm_147 21 [some (.ref 0), some (.int (nI (bitN (leaB R) k))), some (.int (nI (k + 1)))] [] (G, (mI B, j), cc) P := fun z => by
        rw [z, if_neg (by decide), Nat.or_zero] at ih; exact ih
      refine w147_21 (R := R) hp0 ⟨by omega, by omega, fun c1 => absurd c1 (by omega), fun c1 => ⟨hQ, hk0, fun c2 => no ?_, fun c2 => ⟨by omega, rO_n ro p0.1, rO_g ro p0.1, fun c3 => no ?_, fun c3 => ⟨by omega, rO_n ro p0.1, rO_p ro p0.1, fun c4 => no ?_, fun c4 => ⟨by omega, ?_⟩⟩⟩⟩⟩
      · unfold leaB opnB; rw [decide_eq_false c2]; rfl
      · have g := (rO_gd ro hk0).mp c3
        unfold leaB opnB; rw [decide_eq_false (show ¬ R (30 + 9 * k + 1) = 0 by omega), Bool.and_false]; rfl
      · have g := (rO_pt ro hk0).mp c4
        unfold leaB; rw [decide_eq_true g]; simp
      · have g : ¬ R (30 + 9 * k + 1) = 1 := fun y => c3 ((rO_gd ro hk0).mpr y)
        have g2 : ¬ R (30 + 9 * k + 2) = 1 := fun y => c4 ((rO_pt ro hk0).mpr y)
        have e : leaB R k = true := by
          unfold leaB opnB; rw [decide_eq_true c2, decide_eq_true (show R (30 + 9 * k + 1) = 0 by omega), decide_eq_false g2]; rfl
        rw [if_pos e] at ih; exact ih
  exact Lp (R 0) 0 (Nat.zero_add _)
theorem c_least {X : gv_X} {d : Nat} {G : gv_Sh} {A : Nat → Nat → Nat} {j : Nat → Nat → Int64} {cc : gv_Rs} {R : Nat → Nat} (hp0 : oX11 G 0) (p0 : cK A R) : ∃ A1 : Nat → Nat → Nat, Ev X (d + 6) gvm_147 0 (gv_enter [.ref 0] 3) [] (G, (mI A, j), cc) (.inl (some (.int (nI (bitN (leaB R) (R 0))))), (G, (mI A1, j), cc)) ∧ (cK A1 R) ∧ (frK A A1) := by
  obtain ⟨_, h, A1, rfl, hp⟩ := c_least_p (X := X) (d := d) (G := G) (A := A) (j := j) (cc := cc) (R := R) (P := fun r => ∃ A1 : Nat → Nat → Nat, r = (.inl (some (.int (nI (bitN (leaB R) (R 0))))), (G, (mI A1, j), cc)) ∧ (cK A1 R) ∧ (frK A A1)) hp0 p0 (fun A1 h => ⟨A1, rfl, h⟩)
  exact ⟨A1, h, hp⟩
theorem w141 {X : gv_X} {d : Nat} {G : gv_Sh} {A : Nat → Nat → Nat} {j : Nat → Nat → Int64} {cc : gv_Rs} {P : gv_O × gv_S → Prop} {R : Nat → Nat} (hp0 : oX11 G 0) (H : (cK A R) ∧ ((∀ A1v1 : Nat → Nat → Nat, ((cK A1v1 R) ∧ (frK A A1v1)) → ((cntN (opnB R) (R 0)) < 4294967296) ∧ (((¬ (cntN (opnB R) (R 0)) = 0) → P (.inl (some (.int (nI 0))), (G, (mI A1v1, j), cc))) ∧ (((cntN (opnB R) (R 0)) = 0) → P (.inl (some (.int (nI 1))), (G, (mI A1v1, j), cc))))))) : EvP X (d + 7) gvm_141 0 (gv_enter [.ref 0] 1) [] (G, (mI A, j), cc) P :=
  (pv_aload_n rfl rfl   (match (c_open (R := R) (A := A) (X := X) (d := d + 0) (G := G) (j := j) (cc := cc) hp0 H.1 ) with | ⟨A1v1, e1x1, h1⟩ => pv_virt rfl rfl rfl rfl rfl (oX11_k hp0) rfl rfl rfl e1x1 (pn_if_ne rfl (H.2 A1v1 h1).1 (fun c2 => (pn_iconst rfl rfl   (pv_iretz rfl rfl (Or.inl rfl) ((H.2 A1v1 h1).2.1 c2)))) (fun c2 => (pn_iconst rfl rfl   (pv_goto rfl (pv_iretz rfl rfl (Or.inr rfl) ((H.2 A1v1 h1).2.2 c2))))))))
theorem bit_cnt (f : Nat → Bool) : ∀ n, bitN f n = 0 ↔ cntN f n = 0
  | 0 => ⟨fun _ => rfl, fun _ => rfl⟩
  | n + 1 => by
    have ih := bit_cnt f n
    unfold bitN cntN
    cases h : f n
    · simp [ih]
    · simp only [if_true, Bool.toNat_true]
      constructor
      · intro z
        have : (bitN f n ||| 2 ^ n).testBit n = false := by rw [z]; exact Nat.zero_testBit n
        rw [Nat.testBit_or, Nat.testBit_two_pow_self, Bool.or_true] at this
        cases this
      · intro z; omega
theorem c_hostable_p {X : gv_X} {d : Nat} {G : gv_Sh} {A : Nat → Nat → Nat} {j : Nat → Nat → Int64} {cc : gv_Rs} {P : gv_O × gv_S → Prop} {R : Nat → Nat} (hp0 : oX11 G 0) (p0 : cK A R) (hP : ∀ A1 : Nat → Nat → Nat, (cK A1 R) ∧ (frK A A1) → P (.inl (some (.int (zo (decide (bitN (opnB R) (R 0) = 0))))), (G, (mI A1, j), cc))) : EvP X (d + 7) gvm_141 0 (gv_enter [.ref 0] 1) [] (G, (mI A, j), cc) P := by
  have n := okW_n p0.1
  have b := bit_cnt (opnB R) (R 0)
  have l := cntN_le (opnB R) (R 0)
  exact w141 (R := R) hp0 ⟨p0, fun B h1 => ⟨by omega, fun c2 => qz0 (hP B h1) (decide_eq_false (fun z => c2 (b.mp z))), fun c2 => qz1 (hP B h1) (decide_eq_true (b.mpr c2))⟩⟩
theorem c_hostable {X : gv_X} {d : Nat} {G : gv_Sh} {A : Nat → Nat → Nat} {j : Nat → Nat → Int64} {cc : gv_Rs} {R : Nat → Nat} (hp0 : oX11 G 0) (p0 : cK A R) : ∃ A1 : Nat → Nat → Nat, Ev X (d + 7) gvm_141 0 (gv_enter [.ref 0] 1) [] (G, (mI A, j), cc) (.inl (some (.int (zo (decide (bitN (opnB R) (R 0) = 0))))), (G, (mI A1, j), cc)) ∧ (cK A1 R) ∧ (frK A A1) := by
  obtain ⟨_, h, A1, rfl, hp⟩ := c_hostable_p (X := X) (d := d) (G := G) (A := A) (j := j) (cc := cc) (R := R) (P := fun r => ∃ A1 : Nat → Nat → Nat, r = (.inl (some (.int (zo (decide (bitN (opnB R) (R 0) = 0))))), (G, (mI A1, j), cc)) ∧ (cK A1 R) ∧ (frK A A1)) hp0 p0 (fun A1 h => ⟨A1, rfl, h⟩)
  exact ⟨A1, h, hp⟩
theorem w144 {X : gv_X} {d : Nat} {G : gv_Sh} {A : Nat → Nat → Nat} {j : Nat → Nat → Int64} {cc : gv_Rs} {P : gv_O × gv_S → Prop} {R : Nat → Nat} (hp0 : oX11 G 0) (H : (cK A R) ∧ ((∀ A1v1 : Nat → Nat → Nat, ((cQ A1v1 R) ∧ (rW A1v1 17 R) ∧ (frK A A1v1)) → (okW R) ∧ ((rW A1v1 17 R) ∧ ((lg A1v1 R) ∧ ((17 + 15 ≤ 47) ∧ ((∀ A1v2 : Nat → Nat → Nat, ((lg A1v2 R) ∧ (frW A1v1 A1v2 17) ∧ (∃ S, okW S ∧ eqG R S ∧ rW A1v2 17 S)) → P (.inl (some (.int (nI (lkN (tbF R) 60 1 (boR R))))), (G, (mI A1v2, j), cc)))))))))) : EvP X (d + 7) gvm_144 0 (gv_enter [.ref 0] 1) [] (G, (mI A, j), cc) P :=
  (pv_aload_n rfl rfl   (match (c_makeSpare (R := R) (A := A) (X := X) (d := d + 0) (G := G) (j := j) (cc := cc) hp0 H.1 ) with | ⟨A1v1, e2x1, h1⟩ => pv_virt rfl rfl rfl rfl rfl (oX11_k hp0) rfl rfl rfl e2x1 (pv_aload_n rfl rfl   (pv_getP rfl rfl (oX11_k hp0) (oX11_4 hp0)   (pv_aload_n rfl rfl   (pv_getP rfl rfl (oX11_k hp0) (oX11_7 hp0)   (match (c_firstLeak (R := R) (A := A1v1) (X := X) (d := d + 1) (G := G) (j := j) (cc := cc) (oX11_4c hp0) (oX11_7c hp0) (H.2 A1v1 h1).1 (H.2 A1v1 h1).2.1 (H.2 A1v1 h1).2.2.1 (H.2 A1v1 h1).2.2.2.1 ) with | ⟨A1v2, e2x12, h2⟩ => pv_virt rfl rfl rfl rfl rfl (oX10_k (oX11_4c hp0)) rfl rfl rfl e2x12 (pv_ireti rfl rfl ((H.2 A1v1 h1).2.2.2.2 A1v2 h2)))))))))
theorem c_leaks_p {X : gv_X} {d : Nat} {G : gv_Sh} {A : Nat → Nat → Nat} {j : Nat → Nat → Int64} {cc : gv_Rs} {P : gv_O × gv_S → Prop} {R : Nat → Nat} (hp0 : oX11 G 0) (p0 : cK A R) (hP : ∀ A1 : Nat → Nat → Nat, (cK A1 R) ∧ (frK A A1) → P (.inl (some (.int (nI (lkN (tbF R) 60 1 (boR R))))), (G, (mI A1, j), cc))) : EvP X (d + 7) gvm_144 0 (gv_enter [.ref 0] 1) [] (G, (mI A, j), cc) P := by
  refine w144 (R := R) hp0 ⟨p0, fun B h1 => ⟨p0.1, h1.2.1, h1.1.2.2.2, by decide, fun C h2 => ?_⟩⟩
  have q := cQ_w h1.1 h2.1 h2.2.1
  exact hP C ⟨cQ_K q.1, frK_tr h1.2.2 q.2⟩
theorem c_leaks {X : gv_X} {d : Nat} {G : gv_Sh} {A : Nat → Nat → Nat} {j : Nat → Nat → Int64} {cc : gv_Rs} {R : Nat → Nat} (hp0 : oX11 G 0) (p0 : cK A R) : ∃ A1 : Nat → Nat → Nat, Ev X (d + 7) gvm_144 0 (gv_enter [.ref 0] 1) [] (G, (mI A, j), cc) (.inl (some (.int (nI (lkN (tbF R) 60 1 (boR R))))), (G, (mI A1, j), cc)) ∧ (cK A1 R) ∧ (frK A A1) := by
  obtain ⟨_, h, A1, rfl, hp⟩ := c_leaks_p (X := X) (d := d) (G := G) (A := A) (j := j) (cc := cc) (R := R) (P := fun r => ∃ A1 : Nat → Nat → Nat, r = (.inl (some (.int (nI (lkN (tbF R) 60 1 (boR R))))), (G, (mI A1, j), cc)) ∧ (cK A1 R) ∧ (frK A A1)) hp0 p0 (fun A1 h => ⟨A1, rfl, h⟩)
  exact ⟨A1, h, hp⟩
theorem w145 {X : gv_X} {d : Nat} {G : gv_Sh} {A : Nat → Nat → Nat} {j : Nat → Nat → Int64} {cc : gv_Rs} {P : gv_O × gv_S → Prop} {n : Nat} {R : Nat → Nat} (hp0 : oX11 G 0) (H : (n < 4294967296) ∧ ((((0 ≤ n ∧ n ≤ 60)) → (cK A R) ∧ ((∀ A1v2 : Nat → Nat → Nat, ((cQ A1v2 R) ∧ (rW A1v2 17 R) ∧ (frK A A1v2)) → EvP X (d + 7) gvm_145 12 [some (.ref 0), some (.int (nI n)), none, none] [] (G, (mI A1v2, j), cc) P))) ∧ ((¬ (0 ≤ n ∧ n ≤ 60)) → P (.inr 0, gv_ex (G, (mI A, j), cc))))) : EvP X (d + 7) gvm_145 0 (gv_enter [.ref 0, .int (nI n)] 4) [] (G, (mI A, j), cc) P :=
  (pv_aload_n rfl rfl   (pv_iload_n rfl rfl   (pn_iconst rfl rfl   (pn_bipush rfl rfl   (Or.elim (Decidable.em ((0 ≤ n ∧ n ≤ 60))) (fun c1 => pv_virt rfl rfl rfl rfl rfl (oX11_k hp0) rfl rfl rfl (c_needNumber (n := n) (lo := 0) (hi := 60) (A := A) hp0 H.1 (by decide) (by decide) c1) (pv_aload_n rfl rfl   (match (c_makeSpare (R := R) (A := A) (X := X) (d := d + 0) (G := G) (j := j) (cc := cc) hp0 (H.2.1 c1).1 ) with | ⟨A1v2, e2x9, h2⟩ => pv_virt rfl rfl rfl rfl rfl (oX11_k hp0) rfl rfl rfl e2x9 ((H.2.1 c1).2 A1v2 h2)))) (fun c1 => pv_virtT rfl rfl rfl rfl rfl (oX11_k hp0) rfl rfl rfl rfl (c_needNumber_x (n := n) (lo := 0) (hi := 60) (A := A) hp0 H.1 (by decide) (by decide) c1) (H.2.2 c1)))))))
theorem w145_12 {X : gv_X} {d : Nat} {G : gv_Sh} {A : Nat → Nat → Nat} {j : Nat → Nat → Int64} {cc : gv_Rs} {P : gv_O × gv_S → Prop} {n : Nat} {R : Nat → Nat} (hp0 : oX11 G 0) (H : (okW R) ∧ ((rW A 17 R) ∧ ((∀ A1v1 : Nat → Nat → Nat, ((rW A1v1 17 (boR R)) ∧ (∀ q, q ≠ 17 + 9 → q ≠ 17 + 10 → q ≠ 17 + 11 → q ≠ 17 + 12 → A1v1 q = A q)) → EvP X (d + 7) gvm_145 19 [some (.ref 0), some (.int (nI n)), none, none] [] (G, (mI A1v1, j), cc) P)))) : EvP X (d + 7) gvm_145 12 [some (.ref 0), some (.int (nI n)), none, none] [] (G, (mI A, j), cc) P :=
  (pv_aload_n rfl rfl   (pv_getP rfl rfl (oX11_k hp0) (oX11_4 hp0)   (match (c_startWorld (R := R) (A := A) (X := X) (d := d + 5) (G := G) (j := j) (cc := cc) (oX11_4c hp0) H.1 H.2.1 ) with | ⟨A1v1, e1x16, h1⟩ => pv_virt rfl rfl rfl rfl rfl (oX10_k (oX11_4c hp0)) rfl rfl rfl e1x16 (H.2.2 A1v1 h1))))
theorem w145_19 {X : gv_X} {d : Nat} {G : gv_Sh} {A : Nat → Nat → Nat} {j : Nat → Nat → Int64} {cc : gv_Rs} {P : gv_O × gv_S → Prop} {n : Nat} (hp0 : oX11 G 0) (H : EvP X (d + 7) gvm_145 23 [some (.ref 0), some (.int (nI n)), some (.int (nI 0)), some (.int (nI 0))] [] (G, (mI A, j), cc) P) : EvP X (d + 7) gvm_145 19 [some (.ref 0), some (.int (nI n)), none, none] [] (G, (mI A, j), cc) P :=
  (pn_iconst rfl rfl   (pv_istore_n rfl rfl   (pn_iconst rfl rfl   (pv_istore_n rfl rfl   H))))
theorem w145_23 {X : gv_X} {d : Nat} {G : gv_Sh} {A : Nat → Nat → Nat} {j : Nat → Nat → Int64} {cc : gv_Rs} {P : gv_O × gv_S → Prop} {n : Nat} {l2 : Nat} {l3 : Nat} {S : Nat → Nat} (hp0 : oX11 G 0) (H : (l3 < 2147483648) ∧ ((n < 2147483648) ∧ (((n ≤ l3) → P (.inl (some (.int (nI l2))), (G, (mI A, j), cc))) ∧ ((l3 < n) → (okW S) ∧ ((rW A 17 S) ∧ ((lg A S) ∧ ((17 + 15 ≤ 47) ∧ ((∀ A1v1 : Nat → Nat → Nat, ((rW A1v1 17 (hoR S (tbF S))) ∧ (lg A1v1 S) ∧ (∀ q, q ≠ 17 + 11 → q ≠ 17 + 11 + 1 → (q < 61 ∨ 63 < q) → A1v1 q = A q)) → EvP X (d + 7) gvm_145 43 [some (.ref 0), some (.int (nI n)), some (.int (nI l2)), some (.int (nI l3))] [.int (nI (caN S)), .ref 17] (G, (mI A1v1, j), cc) P))))))))) : EvP X (d + 7) gvm_145 23 [some (.ref 0), some (.int (nI n)), some (.int (nI l2)), some (.int (nI l3))] [] (G, (mI A, j), cc) P :=
  (pv_iload_n rfl rfl   (pv_iload_n rfl rfl   (pn_ic_ge rfl H.1 H.2.1 (fun c1 => (pv_iload_n rfl rfl   (pv_ireti rfl rfl (H.2.2.1 c1)))) (fun c1 => (pv_aload_n rfl rfl   (pv_getP rfl rfl (oX11_k hp0) (oX11_4 hp0)   (pv_aload_n rfl rfl   (pv_getP rfl rfl (oX11_k hp0) (oX11_4 hp0)   (pv_aload_n rfl rfl   (pv_getP rfl rfl (oX11_k hp0) (oX11_7 hp0)   (match (c_stepHosted (R := S) (A := A) (X := X) (d := d + 2) (G := G) (j := j) (cc := cc) (oX11_4c hp0) (oX11_7c hp0) (H.2.2.2 c1).1 (H.2.2.2 c1).2.1 (H.2.2.2 c1).2.2.1 (H.2.2.2 c1).2.2.2.1 ) with | ⟨A1v1, e1x40, h2⟩ => pv_virt rfl rfl rfl rfl rfl (oX10_k (oX11_4c hp0)) rfl rfl rfl e1x40 ((H.2.2.2 c1).2.2.2.2 A1v1 h2))))))))))))
theorem w145_43 {X : gv_X} {d : Nat} {G : gv_Sh} {A : Nat → Nat → Nat} {j : Nat → Nat → Int64} {cc : gv_Rs} {P : gv_O × gv_S → Prop} {n : Nat} {l2 : Nat} {l3 : Nat} {s1 : Nat} (hp0 : oX11 G 0) (H : (s1 < 4294967296) ∧ (((¬ (s1 ≤ 1)) → EvP X (d + 7) gvm_145 23 [some (.ref 0), some (.int (nI n)), some (.int (nI l2)), some (.int (nI (l3 + 1)))] [] (G, (mI A, j), cc) P) ∧ ((s1 ≤ 1) → EvP X (d + 7) gvm_145 23 [some (.ref 0), some (.int (nI n)), some (.int (nI (l2 + 1))), some (.int (nI (l3 + 1)))] [] (G, (mI A, j), cc) P))) : EvP X (d + 7) gvm_145 43 [some (.ref 0), some (.int (nI n)), some (.int (nI l2)), some (.int (nI l3))] [.int (nI s1), .ref 17] (G, (mI A, j), cc) P :=
  (pv_virt rfl rfl rfl rfl rfl (oX10_k (oX11_4c hp0)) rfl rfl rfl (c_isTrap (k := s1) (A := A) (oX11_4c hp0) H.1 ) (pv_if_eq_dc rfl  (fun c1 => (pn_iinc rfl rfl rfl rfl   (pv_goto rfl (H.2.1 c1)))) (fun c1 => (pn_iinc rfl rfl rfl rfl   (pn_iinc rfl rfl rfl rfl   (pv_goto rfl (H.2.2 c1)))))))
theorem c_traps_p {X : gv_X} {d : Nat} {G : gv_Sh} {A : Nat → Nat → Nat} {j : Nat → Nat → Int64} {cc : gv_Rs} {P : gv_O × gv_S → Prop} {n : Nat} {R : Nat → Nat} (hp0 : oX11 G 0) (p0 : cK A R) (p1 : n < 4294967296) (hP : ∀ A1 : Nat → Nat → Nat, (cK A1 R) ∧ (frK A A1) → P (oc (fun _ => 0) (spTraps R n).1 (spTraps R n).2 (G, (mI A1, j), cc))) : EvP X (d + 7) gvm_145 0 (gv_enter [.ref 0, .int (nI n)] 4) [] (G, (mI A, j), cc) P := by
  have ok : ∀ B x, cK B R ∧ frK A B → spTraps R n = (0, x) → P (.inl (some (.int (nI x))), (G, (mI B, j), cc)) := fun B x h1 h3 => by
    have := hP B h1
    rw [h3] at this
    exact this
  have no1 : ∀ B, cK B R ∧ frK A B → spTraps R n = (1, 0) → P (.inr 0, gv_ex (G, (mI B, j), cc)) := fun B h1 h3 => by
    have := hP B h1
    rw [h3] at this
    exact this
  have xb : eqX R (boR R) := eqG_X (eqG_bo R)
  have stp : ∀ B C S, cQ B R → frK A B → okW S → eqX R S → rW B 17 S → rW C 17 (hoR S (tbF S)) ∧ lg C S ∧ (∀ q, q ≠ 17 + 11 → q ≠ 17 + 11 + 1 → (q < 61 ∨ 63 < q) → C q = B q) → okW (hoR S (tbF R)) ∧ eqX R (hoR S (tbF R)) ∧ rW C 17 (hoR S (tbF R)) ∧ cQ C R ∧ frK A C := by
    intro B C S hQ hf oS xS rB h
    have eT : hoR S (tbF S) = hoR S (tbF R) := hoR_T oS (fun p hp => by
      rw [xS 0 (by omega)] at hp
      exact tbF_XX p0.1 xS hp)
    have q := cQ_w hQ (lg_X oS h.2.1 (fun i hi => (xS i hi).symm)) (fun q a b => h.2.2 q (by omega) (by omega) b)
    exact ⟨okW_ho oS _, eqX_tr xS (eqG_X (eqG_ho _ _)), by rw [← eT]; exact h.1, q.1, frK_tr hf q.2⟩
  have Lp : ∀ i k B S m, k + i = n → n ≤ 60 → okW S → eqX R S → rW B 17 S → cQ B R → frK A B → m + (dpN (tbF R) 0 4294967295 i S) = (dpN (tbF R) 0 4294967295 n (boR R)) → m ≤ k → EvP X (d + 7) gvm_145 23 [some (.ref 0), some (.int (nI n)), some (.int (nI m)), some (.int (nI k))] [] (G, (mI B, j), cc) P := by
    intro i
    induction i with
    | zero =>
      intro k B S m hk hn oS xS rB hQ hf hm hb
      have hm : m = (dpN (tbF R) 0 4294967295 n (boR R)) := hm
      refine w145_23 (S := S) hp0 ⟨by omega, by omega, fun c1 => ok B _ ⟨cQ_K hQ, hf⟩ ?_, fun c1 => absurd c1 (by omega)⟩
      unfold spTraps; rw [if_neg (by omega), hm]
    | succ i ih =>
      intro k B S m hk hn oS xS rB hQ hf hm hb
      refine w145_23 (S := S) hp0 ⟨by omega, by omega, fun c1 => absurd c1 (by omega), fun c1 => ⟨oS, rB, lg_X p0.1 hQ.2.2.2 xS, by decide, fun C h2 => ?_⟩⟩
      obtain ⟨o2, x2, r2, q2, f2⟩ := stp B C S hQ hf oS xS rB h2
      have ch := (caN_ho S).1
      have hm : m + (if S 3 ≤ S (102 + 13 * 1 + 0) then 0 else (0 + (if hoW S ≤ 1 then (if (4294967295 : Nat) = 4294967295 then 1 else 4294967295 * emR S (tbF R) (hoP S)) else 0)) + (dpN (tbF R) 0 4294967295 i (hoR S (tbF R)))) = (dpN (tbF R) 0 4294967295 n (boR R)) := hm
      by_cases z : S 3 ≤ S (102 + 13 * 1 + 0)
      · have ec : caN S = 4294967295 := by unfold caN; rw [if_pos z]
        have eh : hoR S (tbF R) = S := by unfold hoR; rw [if_pos z]
        have e0 : (dpN (tbF R) 0 4294967295 i S) = 0 := by
          cases i with
          | zero => rfl
          | succ i => exact if_pos z
        rw [if_pos z] at hm
        rw [eh] at r2
        rw [ec]
        exact w145_43 hp0 ⟨by decide, fun c3 => ih (k + 1) C S m (by omega) hn oS xS r2 q2 f2 (by rw [e0]; exact hm) (by omega), fun c3 => absurd c3 (by decide)⟩
      · rw [if_neg z] at hm
        refine w145_43 hp0 ⟨caN_lt S, fun c3 => ih (k + 1) C _ m (by omega) hn o2 x2 r2 q2 f2 ?_ (by omega), fun c3 => ih (k + 1) C _ (m + 1) (by omega) hn o2 x2 r2 q2 f2 ?_ (by omega)⟩
        · rw [if_neg (fun y => c3 (ch.mpr y))] at hm
          omega
        · rw [if_pos (ch.mp c3), if_pos rfl] at hm
          omega
  refine w145 (R := R) hp0 ⟨p1, fun c1 => ⟨p0, fun B h2 => w145_12 (R := R) hp0 ⟨p0.1, h2.2.1, fun C h3 => w145_19 hp0 ?_⟩⟩, fun c1 => no1 A ⟨p0, frK_rf A⟩ (by unfold spTraps; rw [if_pos (by omega)])⟩
  have q := cQ_w h2.1 (lg_of h2.1.2.2.2 (fun q hq => h3.2 q (by omega) (by omega) (by omega) (by omega))) (fun q a b => h3.2 q (by omega) (by omega) (by omega) (by omega))
  exact Lp n 0 C (boR R) 0 (Nat.zero_add _) (by omega) (okW_bo p0.1) xb h3.1 q.1 (frK_tr h2.2.2 q.2) (Nat.zero_add _) (Nat.le_refl _)
theorem w146 {X : gv_X} {d : Nat} {G : gv_Sh} {A : Nat → Nat → Nat} {j : Nat → Nat → Int64} {cc : gv_Rs} {P : gv_O × gv_S → Prop} {n : Nat} {d5 : Nat} {R : Nat → Nat} (hp0 : oX11 G 0) (H : (n < 4294967296) ∧ ((((0 ≤ n ∧ n ≤ 60)) → (d5 < 4294967296) ∧ ((((0 ≤ d5 ∧ d5 ≤ 5)) → (cK A R) ∧ ((∀ A1v3 : Nat → Nat → Nat, ((cQ A1v3 R) ∧ (rW A1v3 17 R) ∧ (frK A A1v3)) → EvP X (d + 7) gvm_146 19 [some (.ref 0), some (.int (nI n)), some (.int (nI d5)), none, none, none, none] [] (G, (mI A1v3, j), cc) P))) ∧ ((¬ (0 ≤ d5 ∧ d5 ≤ 5)) → P (.inr 0, gv_ex (G, (mI A, j), cc))))) ∧ ((¬ (0 ≤ n ∧ n ≤ 60)) → P (.inr 0, gv_ex (G, (mI A, j), cc))))) : EvP X (d + 7) gvm_146 0 (gv_enter [.ref 0, .int (nI n), .int (nI d5)] 7) [] (G, (mI A, j), cc) P :=
  (pv_aload_n rfl rfl   (pv_iload_n rfl rfl   (pn_iconst rfl rfl   (pn_bipush rfl rfl   (Or.elim (Decidable.em ((0 ≤ n ∧ n ≤ 60))) (fun c1 => pv_virt rfl rfl rfl rfl rfl (oX11_k hp0) rfl rfl rfl (c_needNumber (n := n) (lo := 0) (hi := 60) (A := A) hp0 H.1 (by decide) (by decide) c1) (pv_aload_n rfl rfl   (pv_iload_n rfl rfl   (pn_iconst rfl rfl   (pn_iconst rfl rfl   (Or.elim (Decidable.em ((0 ≤ d5 ∧ d5 ≤ 5))) (fun c2 => pv_virt rfl rfl rfl rfl rfl (oX11_k hp0) rfl rfl rfl (c_needNumber (n := d5) (lo := 0) (hi := 5) (A := A) hp0 (H.2.1 c1).1 (by decide) (by decide) c2) (pv_aload_n rfl rfl   (match (c_makeSpare (R := R) (A := A) (X := X) (d := d + 0) (G := G) (j := j) (cc := cc) hp0 ((H.2.1 c1).2.1 c2).1 ) with | ⟨A1v3, e3x16, h3⟩ => pv_virt rfl rfl rfl rfl rfl (oX11_k hp0) rfl rfl rfl e3x16 (((H.2.1 c1).2.1 c2).2 A1v3 h3)))) (fun c2 => pv_virtT rfl rfl rfl rfl rfl (oX11_k hp0) rfl rfl rfl rfl (c_needNumber_x (n := d5) (lo := 0) (hi := 5) (A := A) hp0 (H.2.1 c1).1 (by decide) (by decide) c2) ((H.2.1 c1).2.2 c2)))))))) (fun c1 => pv_virtT rfl rfl rfl rfl rfl (oX11_k hp0) rfl rfl rfl rfl (c_needNumber_x (n := n) (lo := 0) (hi := 60) (A := A) hp0 H.1 (by decide) (by decide) c1) (H.2.2 c1)))))))
theorem w146_19 {X : gv_X} {d : Nat} {G : gv_Sh} {A : Nat → Nat → Nat} {j : Nat → Nat → Int64} {cc : gv_Rs} {P : gv_O × gv_S → Prop} {n : Nat} {d5 : Nat} {R : Nat → Nat} (hp0 : oX11 G 0) (H : (okW R) ∧ ((rW A 17 R) ∧ ((∀ A1v1 : Nat → Nat → Nat, ((rW A1v1 17 (boR R)) ∧ (∀ q, q ≠ 17 + 9 → q ≠ 17 + 10 → q ≠ 17 + 11 → q ≠ 17 + 12 → A1v1 q = A q)) → EvP X (d + 7) gvm_146 26 [some (.ref 0), some (.int (nI n)), some (.int (nI d5)), none, none, none, none] [] (G, (mI A1v1, j), cc) P)))) : EvP X (d + 7) gvm_146 19 [some (.ref 0), some (.int (nI n)), some (.int (nI d5)), none, none, none, none] [] (G, (mI A, j), cc) P :=
  (pv_aload_n rfl rfl   (pv_getP rfl rfl (oX11_k hp0) (oX11_4 hp0)   (match (c_startWorld (R := R) (A := A) (X := X) (d := d + 5) (G := G) (j := j) (cc := cc) (oX11_4c hp0) H.1 H.2.1 ) with | ⟨A1v1, e1x23, h1⟩ => pv_virt rfl rfl rfl rfl rfl (oX10_k (oX11_4c hp0)) rfl rfl rfl e1x23 (H.2.2 A1v1 h1))))
theorem w146_26 {X : gv_X} {d : Nat} {G : gv_Sh} {A : Nat → Nat → Nat} {j : Nat → Nat → Int64} {cc : gv_Rs} {P : gv_O × gv_S → Prop} {n : Nat} {d5 : Nat} (hp0 : oX11 G 0) (H : EvP X (d + 7) gvm_146 31 [some (.ref 0), some (.int (nI n)), some (.int (nI d5)), some (.int (nI 0)), some (.int (nI 0)), none, none] [] (G, (mI A, j), cc) P) : EvP X (d + 7) gvm_146 26 [some (.ref 0), some (.int (nI n)), some (.int (nI d5)), none, none, none, none] [] (G, (mI A, j), cc) P :=
  (pn_iconst rfl rfl   (pv_istore_n rfl rfl   (pn_iconst rfl rfl   (pv_istore rfl rfl   H))))
theorem w146_31 {X : gv_X} {d : Nat} {G : gv_Sh} {A : Nat → Nat → Nat} {j : Nat → Nat → Int64} {cc : gv_Rs} {P : gv_O × gv_S → Prop} {n : Nat} {d5 : Nat} {l3 : Nat} {l4 : Nat} {l5 : Option Value} {l6 : Option Value} (hp0 : oX11 G 0) (H : (l4 < 2147483648) ∧ ((n < 2147483648) ∧ (((n ≤ l4) → P (.inl (some (.int (nI l3))), (G, (mI A, j), cc))) ∧ ((l4 < n) → ((A 28 0) < 4294967296) ∧ ((A 17 2 ≤ 10) ∧ (EvP X (d + 7) gvm_146 54 [some (.ref 0), some (.int (nI n)), some (.int (nI d5)), some (.int (nI l3)), some (.int (nI l4)), l5, l6] [.int (nI (if (A 28 0) < A 17 2 then A (17 + 7) (A 28 0) else 4294967295))] (G, (mI A, j), cc) P)))))) : EvP X (d + 7) gvm_146 31 [some (.ref 0), some (.int (nI n)), some (.int (nI d5)), some (.int (nI l3)), some (.int (nI l4)), l5, l6] [] (G, (mI A, j), cc) P :=
  (pv_iload rfl rfl   (pv_iload_n rfl rfl   (pn_ic_ge rfl H.1 H.2.1 (fun c1 => (pv_iload_n rfl rfl   (pv_ireti rfl rfl (H.2.2.1 c1)))) (fun c1 => (pv_aload_n rfl rfl   (pv_getP rfl rfl (oX11_k hp0) (oX11_4 hp0)   (pv_aload_n rfl rfl   (pv_getP rfl rfl (oX11_k hp0) (oX11_4 hp0)   (pv_getP rfl rfl (oX10_k (oX11_4c hp0)) (oX10_13 (oX11_4c hp0))   (pn_getI rfl rfl (oX1_k (oX10_13c (oX11_4c hp0))) rfl   (pv_virt rfl rfl rfl rfl rfl (oX10_k (oX11_4c hp0)) rfl rfl rfl (c_opAt (c := (A 28 0)) (A := A) (oX11_4c hp0) (H.2.2.2 c1).1 (H.2.2.2 c1).2.1 ) (H.2.2.2 c1).2.2)))))))))))
theorem w146_54 {X : gv_X} {d : Nat} {G : gv_Sh} {A : Nat → Nat → Nat} {j : Nat → Nat → Int64} {cc : gv_Rs} {P : gv_O × gv_S → Prop} {n : Nat} {d5 : Nat} {l3 : Nat} {l4 : Nat} {l5 : Option Value} {l6 : Option Value} {s0 : Nat} {S : Nat → Nat} (hp0 : oX11 G 0) (H : (okW S) ∧ ((rW A 17 S) ∧ ((lg A S) ∧ ((17 + 15 ≤ 47) ∧ ((∀ A1v1 : Nat → Nat → Nat, ((rW A1v1 17 (hoR S (tbF S))) ∧ (lg A1v1 S) ∧ (∀ q, q ≠ 17 + 11 → q ≠ 17 + 11 + 1 → (q < 61 ∨ 63 < q) → A1v1 q = A q)) → EvP X (d + 7) gvm_146 67 [some (.ref 0), some (.int (nI n)), some (.int (nI d5)), some (.int (nI l3)), some (.int (nI l4)), some (.int (nI s0)), l6] [.int (nI (caN S))] (G, (mI A1v1, j), cc) P)))))) : EvP X (d + 7) gvm_146 54 [some (.ref 0), some (.int (nI n)), some (.int (nI d5)), some (.int (nI l3)), some (.int (nI l4)), l5, l6] [.int (nI s0)] (G, (mI A, j), cc) P :=
  (pv_istore rfl rfl   (pv_aload_n rfl rfl   (pv_getP rfl rfl (oX11_k hp0) (oX11_4 hp0)   (pv_aload_n rfl rfl   (pv_getP rfl rfl (oX11_k hp0) (oX11_7 hp0)   (match (c_stepHosted (R := S) (A := A) (X := X) (d := d + 2) (G := G) (j := j) (cc := cc) (oX11_4c hp0) (oX11_7c hp0) H.1 H.2.1 H.2.2.1 H.2.2.2.1 ) with | ⟨A1v1, e1x64, h1⟩ => pv_virt rfl rfl rfl rfl rfl (oX10_k (oX11_4c hp0)) rfl rfl rfl e1x64 (H.2.2.2.2 A1v1 h1)))))))
theorem w146_67 {X : gv_X} {d : Nat} {G : gv_Sh} {A : Nat → Nat → Nat} {j : Nat → Nat → Int64} {cc : gv_Rs} {P : gv_O × gv_S → Prop} {n : Nat} {d5 : Nat} {l3 : Nat} {l4 : Nat} {l5 : Nat} {l6 : Option Value} {s0 : Nat} {R : Nat → Nat} (hp0 : oX11 G 0) (H : (s0 < 4294967296) ∧ (((s0 = 4294967295) → EvP X (d + 7) gvm_146 31 [some (.ref 0), some (.int (nI n)), some (.int (nI d5)), some (.int (nI l3)), some (.int (nI (l4 + 1))), some (.int (nI l5)), some (.int (nI s0))] [] (G, (mI A, j), cc) P) ∧ ((¬ s0 = 4294967295) → (s0 < 4294967296) ∧ (((¬ (s0 ≤ 1)) → EvP X (d + 7) gvm_146 31 [some (.ref 0), some (.int (nI n)), some (.int (nI d5)), some (.int (nI (l3 + 1))), some (.int (nI (l4 + 1))), some (.int (nI l5)), some (.int (nI s0))] [] (G, (mI A, j), cc) P) ∧ ((s0 ≤ 1) → (cQ A R) ∧ ((l5 < R 0) ∧ ((∀ A1v2 : Nat → Nat → Nat, ((cQ A1v2 R) ∧ (frK A A1v2) ∧ (∀ a, (a < 61 ∨ 63 < a) → A1v2 a = A a)) → EvP X (d + 7) gvm_146 96 [some (.ref 0), some (.int (nI n)), some (.int (nI d5)), some (.int (nI l3)), some (.int (nI l4)), some (.int (nI l5)), some (.int (nI s0))] [.int (nI (R 6 + lsum R (tbF R l5) l5 0)), .int (nI d5), .int (nI 1), .int (nI l3)] (G, (mI A1v2, j), cc) P)))))))) : EvP X (d + 7) gvm_146 67 [some (.ref 0), some (.int (nI n)), some (.int (nI d5)), some (.int (nI l3)), some (.int (nI l4)), some (.int (nI l5)), l6] [.int (nI s0)] (G, (mI A, j), cc) P :=
  (pv_istore rfl rfl   (pv_iload rfl rfl   (pn_iconst (u := 4294967295) rfl (by decide)   (pn_ic_eq rfl H.1 (by decide) (fun c1 => (pn_iinc rfl rfl rfl rfl   (pv_goto rfl (H.2.1 c1)))) (fun c1 => (pv_iload_n rfl rfl   (pv_aload_n rfl rfl   (pv_getP rfl rfl (oX11_k hp0) (oX11_4 hp0)   (pv_iload rfl rfl   (pv_virt rfl rfl rfl rfl rfl (oX10_k (oX11_4c hp0)) rfl rfl rfl (c_isTrap (k := s0) (A := A) (oX11_4c hp0) (H.2.2 c1).1 ) (pv_if_eq_dc rfl  (fun c2 => (pn_iconst rfl rfl   (pn_iadd rfl   (pv_istore_n rfl rfl   (pn_iinc rfl rfl rfl rfl   (pv_goto rfl ((H.2.2 c1).2.1 c2))))))) (fun c2 => (pn_iconst rfl rfl   (pv_iload_n rfl rfl   (pv_aload_n rfl rfl   (pv_iload rfl rfl   (match (c_emul (p := l5) (R := R) (A := A) (X := X) (d := d + 2) (G := G) (j := j) (cc := cc) hp0 ((H.2.2 c1).2.2 c2).1 ((H.2.2 c1).2.2 c2).2.1 ) with | ⟨A1v2, e2x93, h3⟩ => pv_virt rfl rfl rfl rfl rfl (oX11_k hp0) rfl rfl rfl e2x93 (((H.2.2 c1).2.2 c2).2.2 A1v2 h3))))))))))))))))))
theorem w146_96 {X : gv_X} {d : Nat} {G : gv_Sh} {A : Nat → Nat → Nat} {j : Nat → Nat → Int64} {cc : gv_Rs} {P : gv_O × gv_S → Prop} {n : Nat} {d5 : Nat} {l3 : Nat} {l4 : Nat} {l5 : Nat} {l6 : Nat} {s0 : Nat} {s1 : Nat} {s2 : Nat} {s3 : Nat} (hp0 : oX11 G 0) (H : EvP X (d + 7) gvm_146 31 [some (.ref 0), some (.int (nI n)), some (.int (nI d5)), some (.int (nI (s0 + (s1 + (s2 * s3))))), some (.int (nI (l4 + 1))), some (.int (nI l5)), some (.int (nI l6))] [] (G, (mI A, j), cc) P) : EvP X (d + 7) gvm_146 96 [some (.ref 0), some (.int (nI n)), some (.int (nI d5)), some (.int (nI l3)), some (.int (nI l4)), some (.int (nI l5)), some (.int (nI l6))] [.int (nI s3), .int (nI s2), .int (nI s1), .int (nI s0)] (G, (mI A, j), cc) P :=
  (pn_imul rfl   (pn_iadd rfl   (pv_goto rfl (pn_iadd rfl   (pv_istore_n rfl rfl   (pn_iinc rfl rfl rfl rfl   (pv_goto rfl H)))))))
theorem c_depth_p {X : gv_X} {d : Nat} {G : gv_Sh} {A : Nat → Nat → Nat} {j : Nat → Nat → Int64} {cc : gv_Rs} {P : gv_O × gv_S → Prop} {n : Nat} {d5 : Nat} {R : Nat → Nat} (hp0 : oX11 G 0) (p0 : cK A R) (p1 : n < 4294967296) (p2 : d5 < 4294967296) (hP : ∀ A1 : Nat → Nat → Nat, (cK A1 R) ∧ (frK A A1) → P (oc (fun _ => 0) (spDepth R n d5).1 (spDepth R n d5).2 (G, (mI A1, j), cc))) : EvP X (d + 7) gvm_146 0 (gv_enter [.ref 0, .int (nI n), .int (nI d5)] 7) [] (G, (mI A, j), cc) P := by
  have ok : ∀ B x, cK B R ∧ frK A B → spDepth R n d5 = (0, x) → P (.inl (some (.int (nI x))), (G, (mI B, j), cc)) := fun B x h1 h3 => by
    have := hP B h1
    rw [h3] at this
    exact this
  have no1 : ∀ B, cK B R ∧ frK A B → spDepth R n d5 = (1, 0) → P (.inr 0, gv_ex (G, (mI B, j), cc)) := fun B h1 h3 => by
    have := hP B h1
    rw [h3] at this
    exact this
  have xb : eqX R (boR R) := eqG_X (eqG_bo R)
  have stp : ∀ B C S, cQ B R → frK A B → okW S → eqX R S → rW B 17 S → rW C 17 (hoR S (tbF S)) ∧ lg C S ∧ (∀ q, q ≠ 17 + 11 → q ≠ 17 + 11 + 1 → (q < 61 ∨ 63 < q) → C q = B q) → okW (hoR S (tbF R)) ∧ eqX R (hoR S (tbF R)) ∧ rW C 17 (hoR S (tbF R)) ∧ cQ C R ∧ frK A C := by
    intro B C S hQ hf oS xS rB h
    have eT : hoR S (tbF S) = hoR S (tbF R) := hoR_T oS (fun p hp => by
      rw [xS 0 (by omega)] at hp
      exact tbF_XX p0.1 xS hp)
    have q := cQ_w hQ (lg_X oS h.2.1 (fun i hi => (xS i hi).symm)) (fun q a b => h.2.2 q (by omega) (by omega) b)
    exact ⟨okW_ho oS _, eqX_tr xS (eqG_X (eqG_ho _ _)), by rw [← eT]; exact h.1, q.1, frK_tr hf q.2⟩
  have Lp : ∀ i k B S m, k + i = n → n ≤ 60 → d5 ≤ 5 → okW S → eqX R S → rW B 17 S → cQ B R → frK A B → m + (dpN (tbF R) 1 d5 i S) = (dpN (tbF R) 1 d5 n (boR R)) → m ≤ 3000 * k → ∀ l5 l6, EvP X (d + 7) gvm_146 31 [some (.ref 0), some (.int (nI n)), some (.int (nI d5)), some (.int (nI m)), some (.int (nI k)), l5, l6] [] (G, (mI B, j), cc) P := by
    intro i
    induction i with
    | zero =>
      intro k B S m hk hn hd oS xS rB hQ hf hm hb l5 l6
      have hm : m = (dpN (tbF R) 1 d5 n (boR R)) := hm
      refine w146_31 hp0 ⟨by omega, by omega, fun c1 => ok B _ ⟨cQ_K hQ, hf⟩ ?_, fun c1 => absurd c1 (by omega)⟩
      unfold spDepth; rw [if_neg (by omega), hm]
    | succ i ih =>
      intro k B S m hk hn hd oS xS rB hQ hf hm hb l5 l6
      have g1 := okW_g oS (g := 1) (by omega)
      have epc : B 28 0 = S (102 + 13 * 1 + 0) := rB.2.2.2.2.2.1.1
      refine w146_31 hp0 ⟨by omega, by omega, fun c1 => absurd c1 (by omega), fun c1 => ⟨by omega, (rP_b rB.2.1 oS).1, ?_⟩⟩
      rw [rW_op rB, epc]
      refine w146_54 (S := S) hp0 ⟨oS, rB, lg_X p0.1 hQ.2.2.2 xS, by decide, fun C h2 => ?_⟩
      obtain ⟨o2, x2, r2, q2, f2⟩ := stp B C S hQ hf oS xS rB h2
      have ch := (caN_ho S).1
      have hm : m + (if S 3 ≤ S (102 + 13 * 1 + 0) then 0 else (1 + (if hoW S ≤ 1 then (if d5 = 4294967295 then 1 else d5 * emR S (tbF R) (hoP S)) else 0)) + (dpN (tbF R) 1 d5 i (hoR S (tbF R)))) = (dpN (tbF R) 1 d5 n (boR R)) := hm
      by_cases z : S 3 ≤ S (102 + 13 * 1 + 0)
      · have ec : caN S = 4294967295 := by unfold caN; rw [if_pos z]
        have eh : hoR S (tbF R) = S := by unfold hoR; rw [if_pos z]
        have e0 : (dpN (tbF R) 1 d5 i S) = 0 := by
          cases i with
          | zero => rfl
          | succ i => exact if_pos z
        rw [if_pos z] at hm
        rw [eh] at r2
        rw [ec]
        exact w146_67 (R := R) hp0 ⟨by decide, fun c3 => ih (k + 1) C S m (by omega) hn hd oS xS r2 q2 f2 (by rw [e0]; exact hm) (by omega) _ _, fun c3 => absurd rfl c3⟩
      · have cl := caN_lt S
        have cne : caN S ≠ 4294967295 := by
          unfold caN; rw [if_neg z]
          repeat' split
          all_goals omega
        have hop : hoP S < S 0 := hoP_lt oS z
        have hop' : hoP S < R 0 := by rw [← xS 0 (by omega)]; exact hop
        have hop8 : hoP S < 8 := by have := (okW_n p0.1).1; omega
        have em : emR S (tbF R) (hoP S) = R 6 + lsum R (tbF R (hoP S)) (hoP S) 0 := by
          unfold emR
          rw [xS 6 (by omega), lsum_X xS hop8 (okW_n p0.1).2.2.2.1]
        have el := emR_le oS (okLw_X hQ.2.2.2.1 xS) (tbF R) (hoP S)
        rw [if_neg z] at hm
        rw [if_pos (by omega : S (102 + 13 * 1 + 0) < S 3), show S (12 + S (102 + 13 * 1 + 0)) = hoP S from rfl]
        refine w146_67 (R := R) hp0 ⟨cl, fun c3 => absurd c3 cne, fun c3 => ⟨cl, fun c4 => ih (k + 1) C _ (m + 1) (by omega) hn hd o2 x2 r2 q2 f2 ?_ (by omega) _ _, fun c4 => ⟨q2, hop', fun D h5 => w146_96 hp0 ?_⟩⟩⟩
        · rw [if_neg (fun y => c4 (ch.mpr y))] at hm
          omega
        · rw [if_pos (ch.mp c4), if_neg (by omega), em] at hm
          rw [em] at el
          have r3 : rW D 17 (hoR S (tbF R)) := rW_fr r2 (fun q a b => h5.2.2 q (by omega))
          have bd : d5 * (R 6 + lsum R (tbF R (hoP S)) (hoP S) 0) ≤ 5 * 487 := Nat.mul_le_mul hd el
          exact ih (k + 1) D _ _ (by omega) hn hd o2 x2 r3 h5.1 (frK_tr f2 h5.2.1) (by omega) (by omega) _ _
  refine w146 (R := R) hp0 ⟨p1, fun c1 => ⟨p2, fun c2 => ⟨p0, fun B h2 => w146_19 (R := R) hp0 ⟨p0.1, h2.2.1, fun C h3 => w146_26 hp0 ?_⟩⟩, fun c2 => no1 A ⟨p0, frK_rf A⟩ (by unfold spDepth; rw [if_pos (by omega)])⟩, fun c1 => no1 A ⟨p0, frK_rf A⟩ (by unfold spDepth; rw [if_pos (by omega)])⟩
  have q := cQ_w h2.1 (lg_of h2.1.2.2.2 (fun q hq => h3.2 q (by omega) (by omega) (by omega) (by omega))) (fun q a b => h3.2 q (by omega) (by omega) (by omega) (by omega))
  exact Lp n 0 C (boR R) 0 (Nat.zero_add _) (by omega) (by omega) (okW_bo p0.1) xb h3.1 q.1 (frK_tr h2.2.2 q.2) (Nat.zero_add _) (Nat.zero_le _) _ _
