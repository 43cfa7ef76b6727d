/-! the shortest program that shows a leak -/
def pfI (R : Nat → Nat) (m : Nat) (S : Nat → Nat) : Prop := okW S ∧ ∀ i, i ≠ 3 → (i < 12 ∨ 12 + m ≤ i) → (i < 102 ∨ 128 ≤ i) → S i = R i
theorem pfI_up {R S : Nat → Nat} {m m' : Nat} (h : pfI R m S) (hm : m ≤ m') : pfI R m' S := ⟨h.1, fun i a b c => h.2 i a (by omega) c⟩
theorem pfI_pg {R S : Nat → Nat} {m x : Nat} (h : pfI R m S) (hm : m ≤ 3) : boR (pgR S m x) = boR (pgR R m x) := by
  have e0 : S 0 = R 0 := h.2 0 (by decide) (by omega) (by omega)
  have e : ∀ i, i < 102 ∨ 128 ≤ i → pgR S m x i = pgR R m x i := fun i hi => by
    unfold pgR pgN
    rw [e0]
    by_cases h3 : i = 3
    · rw [if_pos h3, if_pos h3]
    · rw [if_neg h3, if_neg h3]
      split
      · rfl
      · exact h.2 i h3 (by omega) hi
  funext i
  unfold boR boN
  split
  · unfold boV
    rw [e (22 + ((i - 102) % 13 - 5)) (by omega)]
  · exact e i (by omega)
theorem pfI_s {R S U : Nat → Nat} {m x : Nat} (h : pfI R m S) (hU : okW U) (e : eqG (pgR S m x) U) : pfI R m U := ⟨hU, fun i a b c => by
  rw [e i (by omega), show pgR S m x i = S i from pgN_o a b]
  exact h.2 i a b c⟩
theorem lst_le {f : Nat → Bool} : ∀ {i x : Nat}, lstN f i x ≤ x + i
  | 0, _ => Nat.le_refl _
  | i + 1, x => by
    unfold lstN
    have := lst_le (f := f) (i := i) (x := x + 1)
    split <;> omega
theorem lst_ge {f : Nat → Bool} : ∀ {i x : Nat}, x ≤ lstN f i x
  | 0, _ => Nat.le_refl _
  | i + 1, x => by
    unfold lstN
    have := lst_ge (f := f) (i := i) (x := x + 1)
    split <;> omega
theorem pfF_lt {R : Nat → Nat} (h : R 0 ≤ 8) (h0 : 0 < R 0) (m x : Nat) : pfF R m x ≤ 888 := by
  have a := Nat.mod_lt x h0
  have b := Nat.mod_lt (x / R 0) h0
  have c := Nat.mod_lt (x / R 0 ^ 2) h0
  unfold pfF
  split
  · omega
  · split <;> omega
theorem pow_m {n m : Nat} (hn : n ≤ 8) (hm : m ≤ 3) : n ^ m ≤ 512 := Nat.le_trans (Nat.pow_le_pow_left hn m) (Nat.pow_le_pow_right (by decide) hm)
theorem w312 {X : gv_X} {d : Nat} {G : gv_Sh} {A : Nat → Nat → Nat} {j : Nat → Nat → Int64} {cc : gv_Rs} {P : gv_O × gv_S → Prop}  (hp263 : oX12 G 263) (H : ((A 264 0) < 4294967296) ∧ (((¬ (A 264 0) = 0) → (okW (A 264)) ∧ ((TrJ (gu A 263 0 0) j) ∧ ((∀ A12 : Nat → Nat → Nat, ∀ j12 : Nat → Nat → Int64, ((frT (gu A 263 0 0) A12) ∧ (∀ q, q ≠ 274 → j12 q = j q) ∧ (TrJ A12 j12) ∧ (∀ p, p < A 264 0 → A12 273 p = tbF (A 264) p)) → (∀ A3 : Nat → Nat → Nat, A3 = (gw A12 267 (cpN (A12 264) (A12 267) 368)) → EvP X (d + 9) gvm_312 28 [some (.ref 263), some (.int (nI 4294967295)), some (.int (nI 1)), some (.int (nI 1)), none, none] [] (G, (mI A3, j12), cc) P))))) ∧ (((A 264 0) = 0) → P (.inl (some (.int (nI 4294967295))), (G, (mI (gu A 263 0 0), j), cc))))) : EvP X (d + 9) gvm_312 0 (gv_enter [.ref 263] 6) [] (G, (mI A, j), cc) P :=
  (pv_aload_n rfl rfl   (pn_iconst rfl rfl   (pn_putI rfl rfl (oX12_k hp263)   (pv_aload_n rfl rfl   (pv_virt rfl rfl rfl rfl rfl (oX12_k hp263) rfl rfl rfl (r_ops (A := (gu A 263 0 0)) hp263 ) (pn_if_ne rfl H.1 (fun c1 => (pv_aload_n rfl rfl   (match (r_lays (A := (gu A 263 0 0)) (X := X) (d := d + 1) (G := G) (j := j) (cc := cc) hp263 (H.2.1 c1).1 (H.2.1 c1).2.1 ) with | ⟨A12, j12, e3x15, h2⟩ => pv_virt rfl rfl rfl rfl rfl (oX12_k hp263) rfl rfl rfl e3x15 (pv_aload_n rfl rfl   (match (⟨(gw A12 267 (cpN (A12 264) (A12 267) 368)), rfl⟩ : ∃ Z : Nat → Nat → Nat, Z = (gw A12 267 (cpN (A12 264) (A12 267) 368))) with | ⟨A3, q3⟩ => pv_virt rfl rfl rfl rfl rfl (oX12_k hp263) rfl rfl rfl (ev_eqM q3 (r_keepsAll (A := A12) hp263 )) (pn_iconst rfl (by decide)   (pv_istore_n rfl rfl   (pn_iconst rfl rfl   (pv_istore_n rfl rfl   (pn_iconst rfl rfl   (pv_istore_n rfl rfl   (((H.2.1 c1).2.2 A12 j12 h2) A3 q3)))))))))))) (fun c1 => (pn_iconst rfl (by decide)   (pv_ireti rfl rfl (H.2.2 c1))))))))))
theorem w312_28 {X : gv_X} {d : Nat} {G : gv_Sh} {A : Nat → Nat → Nat} {j : Nat → Nat → Int64} {cc : gv_Rs} {P : gv_O × gv_S → Prop} {l1 : Nat} {l2 : Nat} {l3 : Nat} {l4 : Option Value} {l5 : Option Value} (hp263 : oX12 G 263) (H : (l3 < 2147483648) ∧ (((3 < l3) → (∀ A2 : Nat → Nat → Nat, A2 = (gw A 264 (cpN (A 267) (A 264) 368)) → P (.inl (some (.int (nI l1))), (G, (mI A2, j), cc)))) ∧ ((l3 ≤ 3) → (l1 < 4294967296) ∧ (((¬ l1 = 4294967295) → (∀ A4 : Nat → Nat → Nat, A4 = (gw A 264 (cpN (A 267) (A 264) 368)) → P (.inl (some (.int (nI l1))), (G, (mI A4, j), cc)))) ∧ ((l1 = 4294967295) → EvP X (d + 9) gvm_312 48 [some (.ref 263), some (.int (nI l1)), some (.int (nI (l2 * (A 264 0)))), some (.int (nI l3)), some (.int (nI 0)), l5] [] (G, (mI A, j), cc) P))))) : EvP X (d + 9) gvm_312 28 [some (.ref 263), some (.int (nI l1)), some (.int (nI l2)), some (.int (nI l3)), l4, l5] [] (G, (mI A, j), cc) P :=
  (pv_iload_n rfl rfl   (pn_iconst rfl rfl   (pn_ic_gt rfl H.1 (by decide) (fun c1 => (pv_aload_n rfl rfl   (match (⟨(gw A 264 (cpN (A 267) (A 264) 368)), rfl⟩ : ∃ Z : Nat → Nat → Nat, Z = (gw A 264 (cpN (A 267) (A 264) 368))) with | ⟨A2, q2⟩ => pv_virt rfl rfl rfl rfl rfl (oX12_k hp263) rfl rfl rfl (ev_eqM q2 (r_bringsBack (A := A) hp263 )) (pv_iload_n rfl rfl   (pv_ireti rfl rfl ((H.2.1 c1) A2 q2)))))) (fun c1 => (pv_iload_n rfl rfl   (pn_iconst rfl (by decide)   (pn_ic_ne rfl (H.2.2 c1).1 (by decide) (fun c3 => (pv_aload_n rfl rfl   (match (⟨(gw A 264 (cpN (A 267) (A 264) 368)), rfl⟩ : ∃ Z : Nat → Nat → Nat, Z = (gw A 264 (cpN (A 267) (A 264) 368))) with | ⟨A4, q4⟩ => pv_virt rfl rfl rfl rfl rfl (oX12_k hp263) rfl rfl rfl (ev_eqM q4 (r_bringsBack (A := A) hp263 )) (pv_iload_n rfl rfl   (pv_ireti rfl rfl (((H.2.2 c1).2.1 c3) A4 q4)))))) (fun c3 => (pv_iload_n rfl rfl   (pv_aload_n rfl rfl   (pv_virt rfl rfl rfl rfl rfl (oX12_k hp263) rfl rfl rfl (r_ops (A := A) hp263 ) (pn_imul rfl   (pv_istore_n rfl rfl   (pn_iconst rfl rfl   (pv_istore rfl rfl   ((H.2.2 c1).2.2 c3))))))))))))))))
theorem w312_48 {X : gv_X} {d : Nat} {G : gv_Sh} {A : Nat → Nat → Nat} {j : Nat → Nat → Int64} {cc : gv_Rs} {P : gv_O × gv_S → Prop} {l1 : Nat} {l2 : Nat} {l3 : Nat} {l4 : Nat} {l5 : Option Value} (hp263 : oX12 G 263) (H : (l4 < 2147483648) ∧ ((l2 < 2147483648) ∧ (((l2 ≤ l4) → EvP X (d + 9) gvm_312 28 [some (.ref 263), some (.int (nI l1)), some (.int (nI l2)), some (.int (nI (l3 + 1))), some (.int (nI l4)), l5] [] (G, (mI A, j), cc) P) ∧ ((l4 < l2) → (l1 < 4294967296) ∧ (((¬ l1 = 4294967295) → EvP X (d + 9) gvm_312 28 [some (.ref 263), some (.int (nI l1)), some (.int (nI l2)), some (.int (nI (l3 + 1))), some (.int (nI l4)), l5] [] (G, (mI A, j), cc) P) ∧ ((l1 = 4294967295) → (okW (A 264)) ∧ ((okLw (A 264)) ∧ ((∀ p, p < 8 → A 273 p < 16) ∧ ((1 ≤ l3 ∧ l3 ≤ 3) ∧ ((0 < A 264 0) ∧ ((l4 < 512) ∧ ((∀ A11 : Nat → Nat → Nat, ((okW (A11 264)) ∧ (eqG (pgR (A 264) l3 l4) (A11 264)) ∧ (frG A A11)) → (((!decide (lkN (A 273) 60 1 (boR (pgR (A 264) l3 l4)) = 4294967295)) = true) → EvP X (d + 9) gvm_312 77 [some (.ref 263), some (.int (nI 0)), some (.int (nI l2)), some (.int (nI l3)), some (.int (nI l4)), some (.int (nI 0))] [] (G, (mI A11, j), cc) P) ∧ (((!decide (lkN (A 273) 60 1 (boR (pgR (A 264) l3 l4)) = 4294967295)) = false) → EvP X (d + 9) gvm_312 48 [some (.ref 263), some (.int (nI l1)), some (.int (nI l2)), some (.int (nI l3)), some (.int (nI (l4 + 1))), l5] [] (G, (mI A11, j), cc) P)))))))))))))) : EvP X (d + 9) gvm_312 48 [some (.ref 263), some (.int (nI l1)), some (.int (nI l2)), some (.int (nI l3)), some (.int (nI l4)), l5] [] (G, (mI A, j), cc) P :=
  (pv_iload rfl rfl   (pv_iload_n rfl rfl   (pn_ic_ge rfl H.1 H.2.1 (fun c1 => (pn_iinc rfl rfl rfl rfl   (pv_goto rfl (H.2.2.1 c1)))) (fun c1 => (pv_iload_n rfl rfl   (pn_iconst rfl (by decide)   (pn_ic_ne rfl (H.2.2.2 c1).1 (by decide) (fun c2 => (pn_iinc rfl rfl rfl rfl   (pv_goto rfl ((H.2.2.2 c1).2.1 c2)))) (fun c2 => (pv_aload_n rfl rfl   (pv_iload_n rfl rfl   (pv_iload rfl rfl   (match (r_isProof (many := l3) (number := l4) (A := A) (X := X) (d := d + 0) (G := G) (j := j) (cc := cc) hp263 ((H.2.2.2 c1).2.2 c2).1 ((H.2.2.2 c1).2.2 c2).2.1 ((H.2.2.2 c1).2.2 c2).2.2.1 ((H.2.2.2 c1).2.2 c2).2.2.2.1 ((H.2.2.2 c1).2.2 c2).2.2.2.2.1 ((H.2.2.2 c1).2.2 c2).2.2.2.2.2.1 ) with | ⟨A11, e1x63, h3⟩ => pv_virt rfl rfl rfl rfl rfl (oX12_k hp263) rfl rfl rfl e1x63 (pv_if_ne_zo rfl  (fun c4 => (pn_iconst rfl rfl   (pv_istore_n rfl rfl   (pn_iconst rfl rfl   (pv_istore rfl rfl   ((((H.2.2.2 c1).2.2 c2).2.2.2.2.2.2 A11 h3).1 c4)))))) (fun c4 => (pv_goto rfl (pn_iinc rfl rfl rfl rfl   (pv_goto rfl ((((H.2.2.2 c1).2.2 c2).2.2.2.2.2.2 A11 h3).2 c4))))))))))))))))))
theorem w312_77 {X : gv_X} {d : Nat} {G : gv_Sh} {A : Nat → Nat → Nat} {j : Nat → Nat → Int64} {cc : gv_Rs} {P : gv_O × gv_S → Prop} {l1 : Nat} {l2 : Nat} {l3 : Nat} {l4 : Nat} {l5 : Nat} (hp263 : oX12 G 263) (H : (l5 < 2147483648) ∧ ((l3 < 2147483648) ∧ (((l3 ≤ l5) → EvP X (d + 9) gvm_312 48 [some (.ref 263), some (.int (nI (l1 + (1000 * l3)))), some (.int (nI l2)), some (.int (nI l3)), some (.int (nI (l4 + 1))), some (.int (nI l5))] [] (G, (mI A, j), cc) P) ∧ ((l5 < l3) → ((12 + l5) < 2066) ∧ (EvP X (d + 9) gvm_312 77 [some (.ref 263), some (.int (nI (((10 * l1) + (A 264 (12 + l5))) + 1))), some (.int (nI l2)), some (.int (nI l3)), some (.int (nI l4)), some (.int (nI (l5 + 1)))] [] (G, (mI A, j), cc) P))))) : EvP X (d + 9) gvm_312 77 [some (.ref 263), some (.int (nI l1)), some (.int (nI l2)), some (.int (nI l3)), some (.int (nI l4)), some (.int (nI l5))] [] (G, (mI A, j), cc) P :=
  (pv_iload rfl rfl   (pv_iload_n rfl rfl   (pn_ic_ge rfl H.1 H.2.1 (fun c1 => (pv_iload_n rfl rfl   (pn_sipush rfl rfl   (pv_iload_n rfl rfl   (pn_imul rfl   (pn_iadd rfl   (pv_istore_n rfl rfl   (pn_iinc rfl rfl rfl rfl   (pv_goto rfl (H.2.2.1 c1)))))))))) (fun c1 => (pn_bipush rfl rfl   (pv_iload_n rfl rfl   (pn_imul rfl   (pv_aload_n rfl rfl   (pv_getP rfl rfl (oX12_k hp263) (oX12_1 hp263)   (pn_bipush rfl rfl   (pv_iload rfl rfl   (pn_iadd rfl   (pn_iald rfl (oX12_1c hp263) (by decide) (H.2.2.2 c1).1 rfl (pn_iadd rfl   (pn_iconst rfl rfl   (pn_iadd rfl   (pv_istore_n rfl rfl   (pn_iinc rfl rfl rfl rfl   (pv_goto rfl (H.2.2.2 c1).2)))))))))))))))))))
theorem r_proof_p {X : gv_X} {d : Nat} {G : gv_Sh} {A : Nat → Nat → Nat} {j : Nat → Nat → Int64} {cc : gv_Rs} {P : gv_O × gv_S → Prop}  (hp263 : oX12 G 263) (p0 : okW (A 264)) (p1 : okLw (A 264)) (p2 : TrJ A j) (hP : ∀ A1 : Nat → Nat → Nat, ∀ j1 : Nat → Nat → Int64, (frQ A A1) ∧ (TrJ A1 j1) ∧ (A1 263 0 = 0) → P (.inl (some (.int (nI (spProof (A 264) (tbF (A 264)))))), (G, (mI A1, j1), cc))) : EvP X (d + 9) gvm_312 0 (gv_enter [.ref 263] 6) [] (G, (mI A, j), cc) P := by
  have hn := okW_n p0
  refine w312 hp263 ⟨by omega, fun c1 => ⟨p0, TrJ_of p2 rfl rfl, fun B0 jj h1 => fun C hC => ?_⟩, fun c1 => ?_⟩
  case _ =>
    obtain ⟨f1, f2, f3, f4⟩ := h1
    have e4 : B0 264 = A 264 := Eq.trans (frT_264 f1) rfl
    have c4 : C 264 = A 264 := by rw [hC, gw_row (by decide), e4]
    have c3 : C 273 = B0 273 := by rw [hC, gw_row (by decide)]
    have fin : ∀ B v, frG C B → (∀ i, 368 ≤ i → B 264 i = A 264 i) → v = spProof (A 264) (tbF (A 264)) → ∀ Z, Z = gw B 264 (cpN (B 267) (B 264) 368) → P (.inl (some (.int (nI v))), (G, (mI Z, jj), cc)) := by
      intro B v h3 h2 h4 Z hZ
      have k := kept hC (frU_G h3) (fun i hi => by rw [h2 i hi, e4])
      rw [← hZ] at k
      refine qn (hP Z jj ⟨frQ_tr (frQ_T (frQ_0 (frQ_rf _)) f1) k.1, TrJ_of f3 ?_ rfl, ?_⟩) h4.symm
      · rw [hZ, gw_row (by decide), frG_273 h3, c3]
      · rw [hZ, gw_row (by decide), h3.2 0 (by omega), hC, gw_row (by decide), f1.2 0 (by omega)]
        rfl
    have D28 : ∀ B v l2 l3 l4 l5, frG C B → (∀ i, 368 ≤ i → B 264 i = A 264 i) → v = spProof (A 264) (tbF (A 264)) → v < 2147483648 → l3 ≤ 4 → EvP X (d + 9) gvm_312 28 [some (.ref 263), some (.int (nI v)), some (.int (nI l2)), some (.int (nI l3)), l4, l5] [] (G, (mI B, jj), cc) P := by
      intro B v l2 l3 l4 l5 h3 h2 h4 hv hl
      exact w312_28 hp263 ⟨by omega, fun c1 => fun Z hZ => fin B v h3 h2 h4 Z hZ, fun c1 => ⟨by omega, fun c3 => fun Z hZ => fin B v h3 h2 h4 Z hZ, fun c3 => by omega⟩⟩
    have D48 : ∀ B v l2 m l4 l5, frG C B → (∀ i, 368 ≤ i → B 264 i = A 264 i) → v = spProof (A 264) (tbF (A 264)) → v < 2147483648 → m ≤ 3 → l2 < 2147483648 → l4 < 2147483648 → EvP X (d + 9) gvm_312 48 [some (.ref 263), some (.int (nI v)), some (.int (nI l2)), some (.int (nI m)), some (.int (nI l4)), l5] [] (G, (mI B, jj), cc) P := by
      intro B v l2 m l4 l5 h3 h2 h4 hv hm h5 h6
      exact w312_48 hp263 ⟨by omega, by omega, fun c1 => D28 B v l2 (m + 1) _ _ h3 h2 h4 hv (by omega), fun c1 => ⟨by omega, fun c2 => D28 B v l2 (m + 1) _ _ h3 h2 h4 hv (by omega), fun c2 => by omega⟩⟩
    have In : ∀ m, 1 ≤ m → m ≤ 3 → (pfM (A 264) (tbF (A 264)) m = 4294967295 → ∀ B l4 l5, frG C B → pfI (A 264) m (B 264) → EvP X (d + 9) gvm_312 28 [some (.ref 263), some (.int (nI 4294967295)), some (.int (nI (A 264 0 ^ m))), some (.int (nI (m + 1))), l4, l5] [] (G, (mI B, jj), cc) P) → (pfM (A 264) (tbF (A 264)) m ≠ 4294967295 → pfM (A 264) (tbF (A 264)) m = spProof (A 264) (tbF (A 264))) → ∀ i x B l5, i + x = A 264 0 ^ m → lstN (pfB (A 264) (tbF (A 264)) m) i x = lstN (pfB (A 264) (tbF (A 264)) m) (A 264 0 ^ m) 0 → frG C B → pfI (A 264) m (B 264) → EvP X (d + 9) gvm_312 48 [some (.ref 263), some (.int (nI 4294967295)), some (.int (nI (A 264 0 ^ m))), some (.int (nI m)), some (.int (nI x)), l5] [] (G, (mI B, jj), cc) P := by
      intro m hm1 hm3 hnext hV i
      have hpm := pow_m hn.1 hm3
      induction i with
      | zero =>
        intro x B l5 hx hl hf hI
        refine w312_48 hp263 ⟨by omega, by omega, fun c1 => hnext ?_ B _ _ hf hI, fun c1 => by omega⟩
        unfold pfM
        rw [← hl, if_pos (by show x = _; omega)]
      | succ i ih =>
        intro x B l5 hx hl hf hI
        have b0 : B 264 0 = A 264 0 := hI.2 0 (by decide) (by omega) (by omega)
        have b3 : B 273 = B0 273 := (frG_273 hf).trans c3
        have hLw : okLw (B 264) := okLw_of p1 (hI.2 2 (by decide) (by omega) (by omega)) (fun i hi => hI.2 i (by omega) (by omega) (by omega))
        have oB := okW_pg (x := x) hI.1 hm3 (by omega)
        have eL : lkN (B 273) 60 1 (boR (pgR (B 264) m x)) = lkN (tbF (A 264)) 60 1 (boR (pgR (A 264) m x)) := by
          rw [b3, lkN_T (okW_bo oB) (U := (tbF (A 264))) (fun p hp => f4 p (by rw [boR_o (by omega), show pgR (B 264) m x 0 = B 264 0 from pgN_o (by decide) (by omega), b0] at hp; exact hp)), pfI_pg hI hm3]
        have hls : lstN (pfB (A 264) (tbF (A 264)) m) (i + 1) x = if pfB (A 264) (tbF (A 264)) m x = true then x else lstN (pfB (A 264) (tbF (A 264)) m) i (x + 1) := rfl
        refine w312_48 hp263 ⟨by omega, by omega, fun c1 => by omega, fun c1 => ⟨by decide, fun c2 => absurd rfl c2, fun c2 => ⟨hI.1, hLw, by rw [b3]; exact f3.2, by omega, by omega, by omega, fun U hU => ⟨fun c4 => ?_, fun c4 => ?_⟩⟩⟩⟩
        · obtain ⟨u1, u2, u3⟩ := hU
          rw [eL] at c4
          rw [hls, if_pos (show pfB (A 264) (tbF (A 264)) m x = true from c4)] at hl
          have hne : pfM (A 264) (tbF (A 264)) m = 1000 * m + pfF (A 264) m x := by
            unfold pfM
            rw [← hl, if_neg (by omega)]
          have hFl := pfF_lt (R := (A 264)) hn.1 (by omega) m x
          have hV1 := hV (by omega)
          have hI2 := pfI_s hI u1 u2
          have hf2 := frG_tr hf u3
          have h368 : ∀ i, 368 ≤ i → U 264 i = A 264 i := fun i hi => hI2.2 i (by omega) (by omega) (by omega)
          have hd : ∀ k, k < m → U 264 (12 + k) = x / A 264 0 ^ (m - 1 - k) % A 264 0 := fun k hk => by
            rw [u2 _ (by omega)]
            unfold pgR pgN
            rw [if_neg (by omega), if_pos (by omega), b0, Nat.add_sub_cancel_left]
          have E : ∀ v k, k = m → v + 1000 * m = spProof (A 264) (tbF (A 264)) → v < 1000 → EvP X (d + 9) gvm_312 77 [some (.ref 263), some (.int (nI v)), some (.int (nI (A 264 0 ^ m))), some (.int (nI m)), some (.int (nI x)), some (.int (nI k))] [] (G, (mI U, jj), cc) P := by
            intro v k hk hv hv2
            exact w312_77 hp263 ⟨by omega, by omega, fun c1 => D48 U _ _ m _ _ hf2 h368 hv (by omega) hm3 (by omega) (by omega), fun c1 => by omega⟩
          have q0 := Nat.mod_lt x (show 0 < A 264 0 by omega)
          have q1 := Nat.mod_lt (x / A 264 0) (show 0 < A 264 0 by omega)
          have q2 := Nat.mod_lt (x / A 264 0 ^ 2) (show 0 < A 264 0 by omega)
          rcases (by omega : m = 1 ∨ m = 2 ∨ m = 3) with rfl | rfl | rfl
          · have d0 := hd 0 (by omega)
            rw [show 1 - 1 - 0 = 0 from rfl, Nat.pow_zero, Nat.div_one] at d0
            refine w312_77 hp263 ⟨by omega, by omega, fun c1 => by omega, fun c1 => ⟨by omega, E _ 1 rfl ?_ ?_⟩⟩
            · rw [← hV1, hne, d0]; unfold pfF; rw [if_pos rfl]; omega
            · rw [d0]; omega
          · have d0 := hd 0 (by omega)
            have d1 := hd 1 (by omega)
            rw [show 2 - 1 - 0 = 1 from rfl, Nat.pow_one] at d0
            rw [show 2 - 1 - 1 = 0 from rfl, Nat.pow_zero, Nat.div_one] at d1
            refine w312_77 hp263 ⟨by omega, by omega, fun c1 => by omega, fun c1 => ⟨by omega, w312_77 hp263 ⟨by omega, by omega, fun c1 => by omega, fun c1 => ⟨by omega, E _ 2 rfl ?_ ?_⟩⟩⟩⟩
            · rw [← hV1, hne]; simp only [Nat.zero_add, Nat.mul_zero, Nat.add_zero] at d0 d1 ⊢; rw [d0, d1]; unfold pfF; rw [if_neg (by decide), if_pos rfl]; omega
            · simp only [Nat.zero_add, Nat.mul_zero, Nat.add_zero] at d0 d1 ⊢; rw [d0, d1]; omega
          · have d0 := hd 0 (by omega)
            have d1 := hd 1 (by omega)
            have d2 := hd 2 (by omega)
            rw [show 3 - 1 - 0 = 2 from rfl] at d0
            rw [show 3 - 1 - 1 = 1 from rfl, Nat.pow_one] at d1
            rw [show 3 - 1 - 2 = 0 from rfl, Nat.pow_zero, Nat.div_one] at d2
            refine w312_77 hp263 ⟨by omega, by omega, fun c1 => by omega, fun c1 => ⟨by omega, w312_77 hp263 ⟨by omega, by omega, fun c1 => by omega, fun c1 => ⟨by omega, w312_77 hp263 ⟨by omega, by omega, fun c1 => by omega, fun c1 => ⟨by omega, E _ 3 rfl ?_ ?_⟩⟩⟩⟩⟩⟩
            · rw [← hV1, hne]; simp only [Nat.zero_add, Nat.mul_zero, Nat.add_zero, Nat.reduceAdd] at d0 d1 d2 ⊢; rw [d0, d1, d2]; unfold pfF; rw [if_neg (by decide), if_neg (by decide)]; omega
            · simp only [Nat.zero_add, Nat.mul_zero, Nat.add_zero, Nat.reduceAdd] at d0 d1 d2 ⊢; rw [d0, d1, d2]; omega
        · obtain ⟨u1, u2, u3⟩ := hU
          rw [eL] at c4
          rw [hls, if_neg (show ¬ pfB (A 264) (tbF (A 264)) m x = true by rw [show pfB (A 264) (tbF (A 264)) m x = false from c4]; decide)] at hl
          exact ih (x + 1) U _ (by omega) hl (frG_tr hf u3) (pfI_s hI u1 u2)
    have O : ∀ m B l4 l5, 1 ≤ m → m ≤ 3 → frG C B → pfI (A 264) m (B 264) → (∀ i x B l5, i + x = A 264 0 ^ m → lstN (pfB (A 264) (tbF (A 264)) m) i x = lstN (pfB (A 264) (tbF (A 264)) m) (A 264 0 ^ m) 0 → frG C B → pfI (A 264) m (B 264) → EvP X (d + 9) gvm_312 48 [some (.ref 263), some (.int (nI 4294967295)), some (.int (nI (A 264 0 ^ m))), some (.int (nI m)), some (.int (nI x)), l5] [] (G, (mI B, jj), cc) P) → EvP X (d + 9) gvm_312 28 [some (.ref 263), some (.int (nI 4294967295)), some (.int (nI (A 264 0 ^ (m - 1)))), some (.int (nI m)), l4, l5] [] (G, (mI B, jj), cc) P := by
      intro m B l4 l5 h1 h3 hf hI hin
      have b0 : B 264 0 = A 264 0 := hI.2 0 (by decide) (by omega) (by omega)
      refine w312_28 hp263 ⟨by omega, fun c1 => by omega, fun c1 => ⟨by decide, fun c3 => absurd rfl c3, fun c3 => ?_⟩⟩
      have := hin (A 264 0 ^ m) 0 B l5 (by omega) rfl hf hI
      rw [b0, ← Nat.pow_succ, show (m - 1).succ = m by omega]
      exact this
    have n0 : ¬ A 264 0 = 0 := by omega
    have hS : spProof (A 264) (tbF (A 264)) = if pfM (A 264) (tbF (A 264)) 1 = 4294967295 then (if pfM (A 264) (tbF (A 264)) 2 = 4294967295 then pfM (A 264) (tbF (A 264)) 3 else pfM (A 264) (tbF (A 264)) 2) else pfM (A 264) (tbF (A 264)) 1 := if_neg n0
    have I0 : pfI (A 264) 1 (C 264) := ⟨by rw [c4]; exact p0, fun i _ _ _ => by rw [c4]⟩
    refine O 1 C _ _ (by omega) (by omega) (frG_rf C) I0 (In 1 (by omega) (by omega) (fun q1 B l4 l5 hf hI => ?_) (fun q1 => by rw [hS, if_neg q1]))
    refine O 2 B _ _ (by omega) (by omega) hf (pfI_up hI (by omega)) (In 2 (by omega) (by omega) (fun q2 B l4 l5 hf hI => ?_) (fun q2 => by rw [hS, if_pos q1, if_neg q2]))
    refine O 3 B _ _ (by omega) (by omega) hf (pfI_up hI (by omega)) (In 3 (by omega) (by omega) (fun q3 B l4 l5 hf hI => ?_) (fun q3 => by rw [hS, if_pos q1, if_pos q2]))
    refine w312_28 hp263 ⟨by omega, fun c1 => fun Z hZ => fin B _ hf (fun i hi => hI.2 i (by omega) (by omega) (by omega)) (by rw [hS, if_pos q1, if_pos q2, q3]) Z hZ, fun c1 => by omega⟩
  case _ =>
    exact qn (hP _ _ ⟨frQ_0 (frQ_rf _), TrJ_of p2 rfl rfl, gu_hit _ _ _ _⟩) (by unfold spProof; rw [if_pos (by omega)])
theorem r_proof {X : gv_X} {d : Nat} {G : gv_Sh} {A : Nat → Nat → Nat} {j : Nat → Nat → Int64} {cc : gv_Rs}  (hp263 : oX12 G 263) (p0 : okW (A 264)) (p1 : okLw (A 264)) (p2 : TrJ A j) : ∃ A1 : Nat → Nat → Nat, ∃ j1 : Nat → Nat → Int64, Ev X (d + 9) gvm_312 0 (gv_enter [.ref 263] 6) [] (G, (mI A, j), cc) (.inl (some (.int (nI (spProof (A 264) (tbF (A 264)))))), (G, (mI A1, j1), cc)) ∧ (frQ A A1) ∧ (TrJ A1 j1) ∧ (A1 263 0 = 0) := by
  obtain ⟨_, h, A1, j1, rfl, hp⟩ := r_proof_p (X := X) (d := d) (G := G) (A := A) (j := j) (cc := cc)  (P := fun r => ∃ A1 : Nat → Nat → Nat, ∃ j1 : Nat → Nat → Int64, r = (.inl (some (.int (nI (spProof (A 264) (tbF (A 264)))))), (G, (mI A1, j1), cc)) ∧ (frQ A A1) ∧ (TrJ A1 j1) ∧ (A1 263 0 = 0)) hp263 p0 p1 p2 (fun A1 j1 h => ⟨A1, j1, rfl, h⟩)
  exact ⟨A1, j1, h, hp⟩
