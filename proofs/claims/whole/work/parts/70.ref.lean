/-! the partner -/
theorem pf_1 : ∀ s, s < 256 → (decide (s = 0) || decide (bcN (oth s) + 1 = bcN s)) = true := by decide +kernel
theorem pf_2 : ∀ x, x < 256 → ∀ o, o < 8 → decide (bcN (out x o) ≤ bcN x) = true := by decide +kernel
theorem pf_3 : ∀ s, s < 256 → ∀ p, p < 8 → (!decide (s / 2 ^ p % 2 = 1) || (decide (p = tzN s) || decide (oth s / 2 ^ p % 2 = 1))) = true := by decide +kernel
theorem pf_4 : ∀ x, x < 256 → ∀ o, o < 8 → ∀ p, p < 8 → (!decide (x / 2 ^ p % 2 = 1) || (decide (p = o) || decide (out x o / 2 ^ p % 2 = 1))) = true := by decide +kernel
theorem pf_5 : ∀ n, n < 9 → ∀ p, p < n → decide ((2 ^ n - 1) / 2 ^ p % 2 = 1) = true := by decide +kernel
theorem bt_1 {s p : Nat} (hs : s < 256) (hp : p < 8) (h : s / 2 ^ p % 2 = 1) : 0 < s ∧ 1 ≤ bcN s ∧ bcN (oth s) + 1 = bcN s ∧ (¬ p = tzN s → oth s / 2 ^ p % 2 = 1) := by
  have h0 : ¬ s = 0 := fun e => by rw [e, Nat.zero_div] at h; omega
  have a := pf_1 s hs
  have b := pf_3 s hs p hp
  simp only [Bool.or_eq_true, Bool.not_eq_true', decide_eq_true_eq, decide_eq_false_iff_not] at a b
  refine ⟨by omega, by omega, by omega, fun e => ?_⟩
  rcases b with b | b | b
  · exact absurd h b
  · exact absurd b e
  · exact b
theorem bt_2 {x o p : Nat} (hx : x < 256) (ho : o < 8) (hp : p < 8) (h : x / 2 ^ p % 2 = 1) (e : ¬ p = o) : out x o / 2 ^ p % 2 = 1 ∧ bcN (out x o) ≤ bcN x := by
  have a := pf_2 x hx o ho
  have b := pf_4 x hx o ho p hp
  simp only [Bool.or_eq_true, Bool.not_eq_true', decide_eq_true_eq, decide_eq_false_iff_not] at a b
  refine ⟨?_, a⟩
  rcases b with b | b | b
  · exact absurd h b
  · exact absurd b e
  · exact b
theorem lst_ex {f : Nat → Bool} : ∀ {i k : Nat}, (∃ x, k ≤ x ∧ x < k + i ∧ f x = true) → lstN f i k < k + i ∧ f (lstN f i k) = true
  | 0, k, ⟨x, h1, h2, _⟩ => by omega
  | i + 1, k, ⟨x, h1, h2, h3⟩ => by
    unfold lstN
    by_cases hk : f k = true
    · rw [if_pos hk]; exact ⟨by omega, hk⟩
    · rw [if_neg hk]
      have := lst_ex (f := f) (i := i) (k := k + 1) ⟨x, by
        by_cases e : x = k
        · subst e; exact absurd h3 hk
        · omega, by omega, h3⟩
      exact ⟨by omega, this.2⟩
/-- some one of those tried is the most -/
theorem foN_ok {R T : Nat → Nat} {s : Nat} (hz : T (oth s) < 2147483648) (hT : T s = pmN R T s (R 0)) : (foN R T s = 4294967295 ∧ pbV R T s 4294967295 = T s) ∨ (foN R T s < R 0 ∧ pbV R T s (foN R T s) = T s ∧ ¬ pbV R T s 4294967295 = T s) := by
  unfold foN
  by_cases h : pbV R T s 4294967295 = T s
  · rw [if_pos h]; exact Or.inl ⟨rfl, h⟩
  · rw [if_neg h]
    right
    have e0 : pbV R T s 4294967295 = T (oth s) := if_pos rfl
    rcases pmN_or (R := R) hz (R 0) with e | ⟨x, hx, e⟩
    · exact absurd (e0.trans (e.symm.trans hT.symm)) h
    · have := lst_ex (f := fun o => decide (pbV R T s o = T s)) (i := R 0) (k := 0) ⟨x, by omega, by omega, decide_eq_true (e.symm.trans hT.symm)⟩
      exact ⟨by omega, of_decide_eq_true this.2, h⟩
theorem w335 {X : gv_X} {d : Nat} {G : gv_Sh} {A : Nat → Nat → Nat} {j : Nat → Nat → Int64} {cc : gv_Rs} {P : gv_O × gv_S → Prop} {op : Nat} (hp263 : oX12 G 263) (H : (op < 4294967296) ∧ (((op = 4294967295) → (okW (A 264)) ∧ ((∀ A11 : Nat → Nat → Nat, ((∀ q, q ≠ 277 → A11 q = (gu A 263 0 0) q) ∧ (∀ i, i < 2 ^ (A 264 0) → A11 277 i = paT (A 264) (2 ^ (A 264 0) - 1) i)) → EvP X (d + 7) gvm_335 37 [some (.ref 263), some (.int (nI op)), none, none, none, none, none] [] (G, (mI A11, j), cc) P))) ∧ ((¬ op = 4294967295) → (A 264 0 ≤ 8) ∧ ((op < 4294967296) ∧ (((¬ (A 264 0 ≤ op)) → (okW (A 264)) ∧ ((∀ A13 : Nat → Nat → Nat, ((∀ q, q ≠ 277 → A13 q = (gu A 263 0 0) q) ∧ (∀ i, i < 2 ^ (A 264 0) → A13 277 i = paT (A 264) (2 ^ (A 264 0) - 1) i)) → EvP X (d + 7) gvm_335 37 [some (.ref 263), some (.int (nI op)), none, none, none, none, none] [] (G, (mI A13, j), cc) P))) ∧ ((A 264 0 ≤ op) → P (.inl (some (.int (nI 0))), (G, (mI (gu (gu A 263 0 0) 263 0 1), j), cc)))))))) : EvP X (d + 7) gvm_335 0 (gv_enter [.ref 263, .int (nI op)] 7) [] (G, (mI A, j), cc) P :=
  (pv_aload_n rfl rfl   (pn_iconst rfl rfl   (pn_putI rfl rfl (oX12_k hp263)   (pv_aload_n rfl rfl   (pv_iload_n rfl rfl   (pn_iconst rfl (by decide)   (pn_ic_eq rfl H.1 (by decide) (fun c1 => (pn_iconst rfl rfl   (pn_iconst rfl rfl   (pv_virt rfl rfl rfl rfl rfl (oX12_k hp263) rfl rfl rfl (r_thr_f (b := false) (c := 1) (A := (gu A 263 0 0)) hp263 rfl) (pn_if_eq rfl (by decide) (fun _ => (pv_aload_n rfl rfl   (match (r_laysPairs (A := (gu A 263 0 0)) (X := X) (d := d + 0) (G := G) (j := j) (cc := cc) hp263 (H.2.1 c1).1 ) with | ⟨A11, e1x34, h3⟩ => pv_virt rfl rfl rfl rfl rfl (oX12_k hp263) rfl rfl rfl e1x34 ((H.2.1 c1).2 A11 h3)))) (fun e => absurd e (by decide))))))) (fun c1 => (pv_aload_n rfl rfl   (pv_iload_n rfl rfl   (pv_virt rfl rfl rfl rfl rfl (oX12_k hp263) rfl rfl rfl (r_noOp (p := op) (A := (gu A 263 0 0)) hp263 (H.2.2 c1).1 (H.2.2 c1).2.1 ) (pv_if_eq_dc rfl  (fun c4 => (pn_iconst rfl rfl   (pn_iconst rfl rfl   (pv_virt rfl rfl rfl rfl rfl (oX12_k hp263) rfl rfl rfl (r_thr_f (b := false) (c := 1) (A := (gu A 263 0 0)) hp263 rfl) (pn_if_eq rfl (by decide) (fun _ => (pv_aload_n rfl rfl   (match (r_laysPairs (A := (gu A 263 0 0)) (X := X) (d := d + 0) (G := G) (j := j) (cc := cc) hp263 ((H.2.2 c1).2.2.1 c4).1 ) with | ⟨A13, e3x34, h6⟩ => pv_virt rfl rfl rfl rfl rfl (oX12_k hp263) rfl rfl rfl e3x34 (((H.2.2 c1).2.2.1 c4).2 A13 h6)))) (fun e => absurd e (by decide))))))) (fun c4 => (pn_iconst rfl rfl   (pv_goto rfl (pn_iconst rfl rfl   (pv_virt rfl rfl rfl rfl rfl (oX12_k hp263) rfl rfl rfl (r_thr_t (b := true) (c := 1) (A := (gu A 263 0 0)) hp263 rfl) (pn_if_eq rfl (by decide) (fun e => absurd e (by decide)) (fun _ => (pn_iconst rfl rfl   (pv_ireti rfl rfl ((H.2.2 c1).2.2.2 c4))))))))))))))))))))))
theorem w335_37 {X : gv_X} {d : Nat} {G : gv_Sh} {A : Nat → Nat → Nat} {j : Nat → Nat → Int64} {cc : gv_Rs} {P : gv_O × gv_S → Prop} {op : Nat} (hp263 : oX12 G 263) (H : ((A 264 0) < 32) ∧ ((1 ≤ (2 ^ (A 264 0))) ∧ ((op < 4294967296) ∧ (((¬ op = 4294967295) → EvP X (d + 7) gvm_335 63 [some (.ref 263), some (.int (nI op)), some (.int (nI ((2 ^ (A 264 0)) - 1))), some (.int (nI 4294967295)), some (.int (nI 0)), none, none] [] (G, (mI A, j), cc) P) ∧ ((op = 4294967295) → (((2 ^ (A 264 0)) - 1) < 256) ∧ (P (.inl (some (.int (nI (A 277 ((2 ^ (A 264 0)) - 1))))), (G, (mI A, j), cc)))))))) : EvP X (d + 7) gvm_335 37 [some (.ref 263), some (.int (nI op)), none, none, none, none, none] [] (G, (mI A, j), cc) P :=
  (pn_iconst rfl rfl   (pv_aload_n rfl rfl   (pv_virt rfl rfl rfl rfl rfl (oX12_k hp263) rfl rfl rfl (r_ops (A := A) hp263 ) (pn_ishl1 rfl H.1  (pn_iconst rfl rfl   (pn_isub rfl H.2.1  (pv_istore_n rfl rfl   (pv_iload_n rfl rfl   (pn_iconst rfl (by decide)   (pn_ic_ne rfl H.2.2.1 (by decide) (fun c1 => (pn_iconst rfl (by decide)   (pv_istore_n rfl rfl   (pn_iconst rfl rfl   (pv_istore rfl rfl   (H.2.2.2.1 c1)))))) (fun c1 => (pv_aload_n rfl rfl   (pv_getP rfl rfl (oX12_k hp263) (oX12_30 hp263)   (pv_iload_n rfl rfl   (pn_iald rfl (oX12_30c hp263) (by decide) (H.2.2.2.2 c1).1 rfl (pv_ireti rfl rfl (H.2.2.2.2 c1).2))))))))))))))))
theorem w335_63 {X : gv_X} {d : Nat} {G : gv_Sh} {A : Nat → Nat → Nat} {j : Nat → Nat → Int64} {cc : gv_Rs} {P : gv_O × gv_S → Prop} {op : Nat} {l2 : Nat} {l3 : Nat} {l4 : Nat} {l5 : Option Value} {l6 : Option Value} (hp263 : oX12 G 263) (H : (l4 < 4294967296) ∧ (((¬ l4 = 0) → P (.inl (some (.int (nI l3))), (G, (mI A, j), cc))) ∧ ((l4 = 0) → (l2 < 256) ∧ ((0 < l2) ∧ (EvP X (d + 7) gvm_335 77 [some (.ref 263), some (.int (nI op)), some (.int (nI l2)), some (.int (nI l3)), some (.int (nI l4)), some (.int (nI (tzN l2))), some (.int (nI 4294967295))] [] (G, (mI A, j), cc) P))))) : EvP X (d + 7) gvm_335 63 [some (.ref 263), some (.int (nI op)), some (.int (nI l2)), some (.int (nI l3)), some (.int (nI l4)), l5, l6] [] (G, (mI A, j), cc) P :=
  (pv_iload rfl rfl   (pn_if_ne rfl H.1 (fun c1 => (pv_iload_n rfl rfl   (pv_ireti rfl rfl (H.2.1 c1)))) (fun c1 => (pv_iload_n rfl rfl   (pv_stat rfl rfl rfl rfl rfl rfl rfl rfl (r_firstOf (s := l2) (A := A) (H.2.2 c1).1 (H.2.2 c1).2.1 ) (pv_istore rfl rfl   (pn_iconst rfl (by decide)   (pv_istore rfl rfl   (H.2.2 c1).2.2))))))))
theorem w335_77 {X : gv_X} {d : Nat} {G : gv_Sh} {A : Nat → Nat → Nat} {j : Nat → Nat → Int64} {cc : gv_Rs} {P : gv_O × gv_S → Prop} {op : Nat} {l2 : Nat} {l3 : Nat} {l4 : Nat} {l5 : Nat} {l6 : Nat} (hp263 : oX12 G 263) (H : (okW (A 264)) ∧ ((l2 < 256) ∧ ((0 < l2) ∧ ((l6 = 4294967295 ∨ l6 < 8) ∧ ((l2 < 256) ∧ (((pbV (A 264) (A 277) l2 l6) < 4294967296) ∧ (((A 277 l2) < 4294967296) ∧ ((((pbV (A 264) (A 277) l2 l6) = (A 277 l2)) → EvP X (d + 7) gvm_335 99 [some (.ref 263), some (.int (nI op)), some (.int (nI l2)), some (.int (nI l3)), some (.int (nI l4)), some (.int (nI l5)), some (.int (nI l6))] [] (G, (mI A, j), cc) P) ∧ ((¬ (pbV (A 264) (A 277) l2 l6) = (A 277 l2)) → EvP X (d + 7) gvm_335 77 [some (.ref 263), some (.int (nI op)), some (.int (nI l2)), some (.int (nI l3)), some (.int (nI l4)), some (.int (nI l5)), some (.int (nI (l6 + 1)))] [] (G, (mI A, j), cc) P))))))))) : EvP X (d + 7) gvm_335 77 [some (.ref 263), some (.int (nI op)), some (.int (nI l2)), some (.int (nI l3)), some (.int (nI l4)), some (.int (nI l5)), some (.int (nI l6))] [] (G, (mI A, j), cc) P :=
  (pv_aload_n rfl rfl   (pv_iload_n rfl rfl   (pv_iload rfl rfl   (pv_virt rfl rfl rfl rfl rfl (oX12_k hp263) rfl rfl rfl (r_pairedBy (s := l2) (o := l6) (A := A) hp263 H.1 H.2.1 H.2.2.1 H.2.2.2.1 ) (pv_aload_n rfl rfl   (pv_getP rfl rfl (oX12_k hp263) (oX12_30 hp263)   (pv_iload_n rfl rfl   (pn_iald rfl (oX12_30c hp263) (by decide) H.2.2.2.2.1 rfl (pn_ic_eq rfl H.2.2.2.2.2.1 H.2.2.2.2.2.2.1 (fun c1 => (H.2.2.2.2.2.2.2.1 c1)) (fun c1 => (pn_iinc rfl rfl rfl rfl   (pv_goto rfl (H.2.2.2.2.2.2.2.2 c1)))))))))))))
theorem w335_99 {X : gv_X} {d : Nat} {G : gv_Sh} {A : Nat → Nat → Nat} {j : Nat → Nat → Int64} {cc : gv_Rs} {P : gv_O × gv_S → Prop} {op : Nat} {l2 : Nat} {l3 : Nat} {l4 : Nat} {l5 : Nat} {l6 : Nat} (hp263 : oX12 G 263) (H : (l5 < 4294967296) ∧ ((op < 4294967296) ∧ (((l5 = op) → EvP X (d + 7) gvm_335 118 [some (.ref 263), some (.int (nI op)), some (.int (nI l2)), some (.int (nI l3)), some (.int (nI 1)), some (.int (nI l5)), some (.int (nI l6))] [] (G, (mI A, j), cc) P) ∧ ((¬ l5 = op) → (l6 < 4294967296) ∧ ((op < 4294967296) ∧ (((¬ l6 = op) → EvP X (d + 7) gvm_335 118 [some (.ref 263), some (.int (nI op)), some (.int (nI l2)), some (.int (nI l3)), some (.int (nI 0)), some (.int (nI l5)), some (.int (nI l6))] [] (G, (mI A, j), cc) P) ∧ ((l6 = op) → EvP X (d + 7) gvm_335 118 [some (.ref 263), some (.int (nI op)), some (.int (nI l2)), some (.int (nI l3)), some (.int (nI 1)), some (.int (nI l5)), some (.int (nI l6))] [] (G, (mI A, j), cc) P))))))) : EvP X (d + 7) gvm_335 99 [some (.ref 263), some (.int (nI op)), some (.int (nI l2)), some (.int (nI l3)), some (.int (nI l4)), some (.int (nI l5)), some (.int (nI l6))] [] (G, (mI A, j), cc) P :=
  (pv_iload rfl rfl   (pv_iload_n rfl rfl   (pn_ic_eq rfl H.1 H.2.1 (fun c1 => (pn_iconst rfl rfl   (pv_goto rfl (pv_istore rfl rfl   (H.2.2.1 c1))))) (fun c1 => (pv_iload rfl rfl   (pv_iload_n rfl rfl   (pn_ic_ne rfl (H.2.2.2 c1).1 (H.2.2.2 c1).2.1 (fun c2 => (pn_iconst rfl rfl   (pv_istore rfl rfl   ((H.2.2.2 c1).2.2.1 c2)))) (fun c2 => (pn_iconst rfl rfl   (pv_goto rfl (pv_istore rfl rfl   ((H.2.2.2 c1).2.2.2 c2))))))))))))
theorem w335_118 {X : gv_X} {d : Nat} {G : gv_Sh} {A : Nat → Nat → Nat} {j : Nat → Nat → Int64} {cc : gv_Rs} {P : gv_O × gv_S → Prop} {op : Nat} {l2 : Nat} {l3 : Nat} {l4 : Nat} {l5 : Nat} {l6 : Nat} (hp263 : oX12 G 263) (H : (l5 < 4294967296) ∧ ((op < 4294967296) ∧ (((¬ l5 = op) → EvP X (d + 7) gvm_335 132 [some (.ref 263), some (.int (nI op)), some (.int (nI l2)), some (.int (nI l5)), some (.int (nI l4)), some (.int (nI l5)), some (.int (nI l6))] [] (G, (mI A, j), cc) P) ∧ ((l5 = op) → EvP X (d + 7) gvm_335 132 [some (.ref 263), some (.int (nI op)), some (.int (nI l2)), some (.int (nI l6)), some (.int (nI l4)), some (.int (nI l5)), some (.int (nI l6))] [] (G, (mI A, j), cc) P)))) : EvP X (d + 7) gvm_335 118 [some (.ref 263), some (.int (nI op)), some (.int (nI l2)), some (.int (nI l3)), some (.int (nI l4)), some (.int (nI l5)), some (.int (nI l6))] [] (G, (mI A, j), cc) P :=
  (pv_iload rfl rfl   (pv_iload_n rfl rfl   (pn_ic_ne rfl H.1 H.2.1 (fun c1 => (pv_iload rfl rfl   (pv_istore_n rfl rfl   (H.2.2.1 c1)))) (fun c1 => (pv_iload rfl rfl   (pv_goto rfl (pv_istore_n rfl rfl   (H.2.2.2 c1))))))))
theorem w335_132 {X : gv_X} {d : Nat} {G : gv_Sh} {A : Nat → Nat → Nat} {j : Nat → Nat → Int64} {cc : gv_Rs} {P : gv_O × gv_S → Prop} {op : Nat} {l2 : Nat} {l3 : Nat} {l4 : Nat} {l5 : Nat} {l6 : Nat} (hp263 : oX12 G 263) (H : (l5 < 32) ∧ ((l6 < 4294967296) ∧ (((¬ l6 = 4294967295) → (l6 < 32) ∧ (EvP X (d + 7) gvm_335 63 [some (.ref 263), some (.int (nI op)), some (.int (nI ((l2 &&& ((2 ^ l5) ^^^ 4294967295)) &&& ((2 ^ l6) ^^^ 4294967295)))), some (.int (nI l3)), some (.int (nI l4)), some (.int (nI l5)), some (.int (nI l6))] [] (G, (mI A, j), cc) P)) ∧ ((l6 = 4294967295) → EvP X (d + 7) gvm_335 63 [some (.ref 263), some (.int (nI op)), some (.int (nI (l2 &&& ((2 ^ l5) ^^^ 4294967295)))), some (.int (nI l3)), some (.int (nI l4)), some (.int (nI l5)), some (.int (nI l6))] [] (G, (mI A, j), cc) P)))) : EvP X (d + 7) gvm_335 132 [some (.ref 263), some (.int (nI op)), some (.int (nI l2)), some (.int (nI l3)), some (.int (nI l4)), some (.int (nI l5)), some (.int (nI l6))] [] (G, (mI A, j), cc) P :=
  (pv_iload_n rfl rfl   (pn_iconst rfl rfl   (pv_iload rfl rfl   (pn_ishl1 rfl H.1  (pn_iconst rfl (by decide)   (pn_ixor rfl   (pn_iand rfl   (pv_istore_n rfl rfl   (pv_iload rfl rfl   (pn_iconst rfl (by decide)   (pn_ic_ne rfl H.2.1 (by decide) (fun c1 => (pv_iload_n rfl rfl   (pn_iconst rfl rfl   (pv_iload rfl rfl   (pn_ishl1 rfl (H.2.2.1 c1).1  (pn_iconst rfl (by decide)   (pn_ixor rfl   (pn_iand rfl   (pv_istore_n rfl rfl   (pv_goto rfl (H.2.2.1 c1).2)))))))))) (fun c1 => (pv_iload_n rfl rfl   (pv_goto rfl (pv_istore_n rfl rfl   (pv_goto rfl (H.2.2.2 c1)))))))))))))))))
theorem r_pairs_p {X : gv_X} {d : Nat} {G : gv_Sh} {A : Nat → Nat → Nat} {j : Nat → Nat → Int64} {cc : gv_Rs} {P : gv_O × gv_S → Prop} {op : Nat} (hp263 : oX12 G 263) (p0 : okW (A 264)) (p1 : TrJ A j) (p2 : op < 4294967296) (hP : ∀ A1 : Nat → Nat → Nat, (frQ A A1) ∧ (TrJ A1 j) ∧ (A1 263 0 = (spPairs (A 264) op).1) → P (.inl (some (.int (nI (spPairs (A 264) op).2))), (G, (mI A1, j), cc))) : EvP X (d + 7) gvm_335 0 (gv_enter [.ref 263, .int (nI op)] 7) [] (G, (mI A, j), cc) P := by
  have hn := okW_n p0
  have hp := pow_le8 hn.1
  have hp0 : 0 < 2 ^ A 264 0 := Nat.two_pow_pos _
  have K : ∀ B, (∀ q, q ≠ 277 → B q = gu A 263 0 0 q) → (∀ i, i < 2 ^ A 264 0 → B 277 i = (paT (A 264) (2 ^ A 264 0 - 1)) i) → (op = 4294967295 ∨ op < A 264 0) → EvP X (d + 7) gvm_335 37 [some (.ref 263), some (.int (nI op)), none, none, none, none, none] [] (G, (mI B, j), cc) P := by
    intro B b1 b2 hop
    have e4 : B 264 = A 264 := (b1 264 (by decide)).trans rfl
    have fr : (spPairs (A 264) op).1 = 0 → frQ A B ∧ TrJ B j ∧ B 263 0 = (spPairs (A 264) op).1 := fun e => ⟨⟨fun q a => (b1 q (by omega)).trans (gu_ro (by omega)), fun k a => by rw [b1 263 (by decide)]; exact gu_k (by omega) rfl⟩, TrJ_of p1 ((b1 273 (by decide)).trans rfl) rfl, by rw [b1 263 (by decide), e]; rfl⟩
    by_cases hN : op = 4294967295
    · have es : spPairs (A 264) op = (0, (paT (A 264) (2 ^ A 264 0 - 1)) (2 ^ A 264 0 - 1)) := by unfold spPairs; rw [if_neg (by omega), if_pos hN]
      refine w335_37 hp263 ⟨by rw [e4]; omega, by rw [e4]; omega, by omega, fun c1 => absurd hN c1, fun c1 => ⟨by rw [e4]; omega, ?_⟩⟩
      refine qn (hP B (fr (by rw [es]))) ?_
      rw [es, e4, b2 _ (by omega)]
    · have ho : op < A 264 0 := by omega
      have es : spPairs (A 264) op = (0, paW (A 264) (paT (A 264) (2 ^ A 264 0 - 1)) 8 (2 ^ A 264 0 - 1) op) := by unfold spPairs; rw [if_neg (by omega), if_neg hN]
      rw [es] at hP fr
      have fr := fr rfl
      have E63 : ∀ s v l5 l6, v = paW (A 264) (paT (A 264) (2 ^ A 264 0 - 1)) 8 (2 ^ A 264 0 - 1) op → EvP X (d + 7) gvm_335 63 [some (.ref 263), some (.int (nI op)), some (.int (nI s)), some (.int (nI v)), some (.int (nI 1)), l5, l6] [] (G, (mI B, j), cc) P := by
        intro s v l5 l6 hv
        exact w335_63 hp263 ⟨by decide, fun c1 => qn (hP B fr) hv.symm, fun c1 => absurd c1 (by decide)⟩
      have L : ∀ i s l3 l5 l6, s < 2 ^ A 264 0 → s / 2 ^ op % 2 = 1 → bcN s ≤ i → paW (A 264) (paT (A 264) (2 ^ A 264 0 - 1)) i s op = paW (A 264) (paT (A 264) (2 ^ A 264 0 - 1)) 8 (2 ^ A 264 0 - 1) op → EvP X (d + 7) gvm_335 63 [some (.ref 263), some (.int (nI op)), some (.int (nI s)), some (.int (nI l3)), some (.int (nI 0)), l5, l6] [] (G, (mI B, j), cc) P := by
        intro i
        induction i with
        | zero =>
          intro s l3 l5 l6 hs hb hi hv
          have := (bt_1 (by omega) (by omega) hb).2.1
          omega
        | succ i ih =>
          intro s l3 l5 l6 hs hb hi hv
          obtain ⟨s0, -, s1, s2⟩ := bt_1 (p := op) (by omega) (by omega) hb
          obtain ⟨o1, o2, o3⟩ := oth_lt (s := s) (by omega) s0
          have tl : ∀ x, x < 2 ^ A 264 0 → (paT (A 264) (2 ^ A 264 0 - 1)) x ≤ 6 * x := fun x hx => paT_le p0 _ (by omega) x (by omega)
          have t1 := tl (oth s) (by omega)
          have t2 := tl s hs
          have hfo := foN_ok (R := (A 264)) (T := (paT (A 264) (2 ^ A 264 0 - 1))) (s := s) (by omega) (paT_s (by omega) s0 (by omega))
          have pb : ∀ o, pbV (A 264) (B 277) s o = pbV (A 264) (paT (A 264) (2 ^ A 264 0 - 1)) s o := fun o => pbV_t (by omega) s0 (fun x hx => b2 x (by omega))
          have hs' : paW (A 264) (paT (A 264) (2 ^ A 264 0 - 1)) (i + 1) s op = if tzN s = op then foN (A 264) (paT (A 264) (2 ^ A 264 0 - 1)) s else if foN (A 264) (paT (A 264) (2 ^ A 264 0 - 1)) s = op then tzN s else paW (A 264) (paT (A 264) (2 ^ A 264 0 - 1)) i (if foN (A 264) (paT (A 264) (2 ^ A 264 0 - 1)) s = 4294967295 then oth s else out (oth s) (foN (A 264) (paT (A 264) (2 ^ A 264 0 - 1)) s)) op := rfl
          rw [hs'] at hv
          have fl : foN (A 264) (paT (A 264) (2 ^ A 264 0 - 1)) s < 4294967296 := by omega
          have U : ∀ v l4, (l4 = 1 ∧ v = paW (A 264) (paT (A 264) (2 ^ A 264 0 - 1)) 8 (2 ^ A 264 0 - 1) op) ∨ (l4 = 0 ∧ ¬ tzN s = op ∧ ¬ foN (A 264) (paT (A 264) (2 ^ A 264 0 - 1)) s = op) → EvP X (d + 7) gvm_335 132 [some (.ref 263), some (.int (nI op)), some (.int (nI s)), some (.int (nI v)), some (.int (nI l4)), some (.int (nI (tzN s))), some (.int (nI (foN (A 264) (paT (A 264) (2 ^ A 264 0 - 1)) s)))] [] (G, (mI B, j), cc) P := by
            intro v l4 hl
            have go : ∀ s' l5 l6, s' = (if foN (A 264) (paT (A 264) (2 ^ A 264 0 - 1)) s = 4294967295 then oth s else out (oth s) (foN (A 264) (paT (A 264) (2 ^ A 264 0 - 1)) s)) → EvP X (d + 7) gvm_335 63 [some (.ref 263), some (.int (nI op)), some (.int (nI s')), some (.int (nI v)), some (.int (nI l4)), l5, l6] [] (G, (mI B, j), cc) P := by
              intro s' l5 l6 hs''
              rcases hl with ⟨rfl, h2⟩ | ⟨rfl, h2, h3⟩
              · exact E63 s' v l5 l6 h2
              · rw [if_neg h2, if_neg h3, ← hs''] at hv
                have b1 := s2 (fun e => h2 e.symm)
                rcases hfo with ⟨f1, -⟩ | ⟨f1, -, -⟩
                · rw [if_pos f1] at hs''
                  subst hs''
                  exact ih _ v l5 l6 (by omega) b1 (by omega) hv
                · rw [if_neg (by omega)] at hs''
                  have b2 := bt_2 (x := oth s) (o := foN (A 264) (paT (A 264) (2 ^ A 264 0 - 1)) s) (by omega) (by omega) (by omega) b1 (fun e => h3 e.symm)
                  have b3 := out_le (oth s) (foN (A 264) (paT (A 264) (2 ^ A 264 0 - 1)) s)
                  subst hs''
                  exact ih _ v l5 l6 (by omega) b2.1 (by omega) hv
            refine w335_132 hp263  ⟨by (first | omega | decide), ⟨by (first | omega | decide), ⟨fun c1 => ⟨by (first | omega | decide), ?_⟩, fun c1 => ?_⟩⟩⟩
            · refine go _ _ _ ?_
              rw [if_neg c1]
              rfl
            · refine go _ _ _ ?_
              rw [if_pos c1]
              rfl
          have F : ∀ l3 l4, EvP X (d + 7) gvm_335 99 [some (.ref 263), some (.int (nI op)), some (.int (nI s)), some (.int (nI l3)), some (.int (nI l4)), some (.int (nI (tzN s))), some (.int (nI (foN (A 264) (paT (A 264) (2 ^ A 264 0 - 1)) s)))] [] (G, (mI B, j), cc) P := by
            intro l3 l4
            have V : ∀ l4, (l4 = 1 ∧ (tzN s = op ∨ foN (A 264) (paT (A 264) (2 ^ A 264 0 - 1)) s = op)) ∨ (l4 = 0 ∧ ¬ tzN s = op ∧ ¬ foN (A 264) (paT (A 264) (2 ^ A 264 0 - 1)) s = op) → EvP X (d + 7) gvm_335 118 [some (.ref 263), some (.int (nI op)), some (.int (nI s)), some (.int (nI l3)), some (.int (nI l4)), some (.int (nI (tzN s))), some (.int (nI (foN (A 264) (paT (A 264) (2 ^ A 264 0 - 1)) s)))] [] (G, (mI B, j), cc) P := by
              intro l4 hl
              refine w335_118 hp263 ⟨by omega, by omega, fun c1 => U _ l4 ?_, fun c1 => U _ l4 ?_⟩
              · rcases hl with ⟨q1, q2⟩ | ⟨q1, q2, q3⟩
                · left; rw [if_neg c1, if_pos (by omega)] at hv; exact ⟨q1, hv⟩
                · right; exact ⟨q1, q2, q3⟩
              · rcases hl with ⟨q1, q2⟩ | ⟨q1, q2, q3⟩
                · left; rw [if_pos c1] at hv; exact ⟨q1, hv⟩
                · exact absurd c1 q2
            refine w335_99 hp263  ⟨by omega, ⟨by omega, ⟨fun c1 => ?_, fun c1 => ⟨by omega, ⟨by omega, ⟨fun c2 => ?_, fun c2 => ?_⟩⟩⟩⟩⟩⟩
            all_goals exact V _ (by omega)
          have I : ∀ i k l3 l4, i + k = A 264 0 → lstN (fun o => decide (pbV (A 264) (paT (A 264) (2 ^ A 264 0 - 1)) s o = (paT (A 264) (2 ^ A 264 0 - 1)) s)) i k = foN (A 264) (paT (A 264) (2 ^ A 264 0 - 1)) s → foN (A 264) (paT (A 264) (2 ^ A 264 0 - 1)) s < A 264 0 → EvP X (d + 7) gvm_335 77 [some (.ref 263), some (.int (nI op)), some (.int (nI s)), some (.int (nI l3)), some (.int (nI l4)), some (.int (nI (tzN s))), some (.int (nI k))] [] (G, (mI B, j), cc) P := by
            intro i
            induction i with
            | zero => intro k l3 l4 hk hl hf; exact absurd hl (by show ¬ k = _; omega)
            | succ i ihI =>
              intro k l3 l4 hk hl hf
              have hls : lstN (fun o => decide (pbV (A 264) (paT (A 264) (2 ^ A 264 0 - 1)) s o = (paT (A 264) (2 ^ A 264 0 - 1)) s)) (i + 1) k = if decide (pbV (A 264) (paT (A 264) (2 ^ A 264 0 - 1)) s k = (paT (A 264) (2 ^ A 264 0 - 1)) s) = true then k else lstN (fun o => decide (pbV (A 264) (paT (A 264) (2 ^ A 264 0 - 1)) s o = (paT (A 264) (2 ^ A 264 0 - 1)) s)) i (k + 1) := rfl
              rw [hls] at hl
              have q1 := pbV_le p0 (tab := (paT (A 264) (2 ^ A 264 0 - 1))) (s := s) (o := k) (by omega) s0 (by omega) (fun x hx => tl x (by omega))
              refine w335_77 hp263 ⟨by rw [e4]; exact p0, by omega, s0, by omega, by omega, ?_⟩
              rw [e4, pb, b2 s hs]
              refine ⟨by omega, by omega, fun c1 => ?_, fun c1 => ?_⟩
              · rw [if_pos (decide_eq_true c1)] at hl
                rw [hl]
                exact F _ _
              · rw [if_neg (by rw [decide_eq_false c1]; decide)] at hl
                exact ihI (k + 1) _ _ (by omega) hl hf
          refine w335_63 hp263 ⟨by decide, fun c1 => absurd rfl c1, fun c1 => ⟨by omega, s0, ?_⟩⟩
          have q1 := pbV_le p0 (tab := (paT (A 264) (2 ^ A 264 0 - 1))) (s := s) (o := 4294967295) (by omega) s0 (Or.inl rfl) (fun x hx => tl x (by omega))
          refine w335_77 hp263 ⟨by rw [e4]; exact p0, by omega, s0, Or.inl rfl, by omega, ?_⟩
          rw [e4, pb, b2 s hs]
          refine ⟨by omega, by omega, fun c1 => ?_, fun c1 => ?_⟩
          · have ef : foN (A 264) (paT (A 264) (2 ^ A 264 0 - 1)) s = 4294967295 := if_pos c1
            have := F l3 0
            rw [ef] at this
            exact this
          · have ef : foN (A 264) (paT (A 264) (2 ^ A 264 0 - 1)) s = lstN (fun o => decide (pbV (A 264) (paT (A 264) (2 ^ A 264 0 - 1)) s o = (paT (A 264) (2 ^ A 264 0 - 1)) s)) (A 264 0) 0 := if_neg c1
            rw [show nI (4294967295 + 1) = nI 0 from rfl]
            refine I (A 264 0) 0 _ _ (by omega) ef.symm ?_
            rcases hfo with ⟨-, f2⟩ | ⟨f1, -, -⟩
            · exact absurd f2 c1
            · exact f1
      refine w335_37 hp263 ⟨by rw [e4]; omega, by rw [e4]; omega, by omega, fun c1 => ?_, fun c1 => absurd c1 hN⟩
      rw [e4]
      exact L 8 (2 ^ A 264 0 - 1) _ _ _ (by omega) (of_decide_eq_true (pf_5 (A 264 0) (by omega) op ho)) (bcN_lt _) rfl
  refine w335 hp263  ⟨by (first | omega | assumption), ⟨fun c1 => ⟨by (first | omega | assumption), (fun A11 h3 => ?_)⟩, fun c1 => ⟨by (first | omega | assumption), ⟨by (first | omega | assumption), ⟨fun c4 => ⟨by (first | omega | assumption), (fun A13 h6 => ?_)⟩, fun c4 => ?_⟩⟩⟩⟩⟩
  · exact K _ h3.1 h3.2 (by omega)
  · exact K _ h6.1 h6.2 (by omega)
  · have es : spPairs (A 264) op = (1, 0) := by unfold spPairs; rw [if_pos (by omega)]
    rw [es] at hP
    exact hP _ ⟨frQ_0 (frQ_0 (frQ_rf _)), TrJ_of p1 rfl rfl, gu_hit _ _ _ _⟩
theorem r_pairs {X : gv_X} {d : Nat} {G : gv_Sh} {A : Nat → Nat → Nat} {j : Nat → Nat → Int64} {cc : gv_Rs} {op : Nat} (hp263 : oX12 G 263) (p0 : okW (A 264)) (p1 : TrJ A j) (p2 : op < 4294967296) : ∃ A1 : Nat → Nat → Nat, Ev X (d + 7) gvm_335 0 (gv_enter [.ref 263, .int (nI op)] 7) [] (G, (mI A, j), cc) (.inl (some (.int (nI (spPairs (A 264) op).2))), (G, (mI A1, j), cc)) ∧ (frQ A A1) ∧ (TrJ A1 j) ∧ (A1 263 0 = (spPairs (A 264) op).1) := by
  obtain ⟨_, h, A1, rfl, hp⟩ := r_pairs_p (X := X) (d := d) (G := G) (A := A) (j := j) (cc := cc) (op := op) (P := fun r => ∃ A1 : Nat → Nat → Nat, r = (.inl (some (.int (nI (spPairs (A 264) op).2))), (G, (mI A1, j), cc)) ∧ (frQ A A1) ∧ (TrJ A1 j) ∧ (A1 263 0 = (spPairs (A 264) op).1)) hp263 p0 p1 p2 (fun A1 h => ⟨A1, rfl, h⟩)
  exact ⟨A1, h, hp⟩
