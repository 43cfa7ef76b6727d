/-! sums of the law -/
theorem w267 {X : gv_X} {d : Nat} {G : gv_Sh} {A : Nat → Nat → Nat} {j : Nat → Nat → Int64} {cc : gv_Rs} {r : gv_O × gv_S} {which : Nat} {p : Nat} {R : Nat → Nat} {T : Nat → Nat} (hp263 : oX12 G 263) (hR : A 264 = R) (hT : A 273 = T) (H : Ev X (d + 4) gvm_267 5 [some (.ref 263), some (.int (nI which)), some (.int (nI p)), some (.int (nI 0)), some (.int (nI 0))] [] (G, (mI A, j), cc) r) : Ev X (d + 4) gvm_267 0 (gv_enter [.ref 263, .int (nI which), .int (nI p)] 5) [] (G, (mI A, j), cc) r :=
  by
  subst hR hT
  exact (en_iconst rfl rfl   (ev_istore_n rfl rfl   (en_iconst rfl rfl   (ev_istore rfl rfl   H))))
theorem w267_5 {X : gv_X} {d : Nat} {G : gv_Sh} {A : Nat → Nat → Nat} {j : Nat → Nat → Int64} {cc : gv_Rs} {r : gv_O × gv_S} {which : Nat} {p : Nat} {R : Nat → Nat} {T : Nat → Nat} {l3 : Nat} {l4 : Nat} {A11 : Nat → Nat → Nat} (hp263 : oX12 G 263) (hR : A 264 = R) (hT : A 273 = T) (v4 : ((R 2) = 1) → (l4 < (R 368)) → ((R (369 + (4 * l4))) = which) → Ev X (d + 0 + 3) gvm_266 0 (gv_enter [.ref 263, .int (nI l4), .int (nI p)] 10) [] (G, (mI A, j), cc) (.inl (some (.int (zo (hlS R (T p) p l4)))), (G, (mI A11, j), cc))) (H : ((R 2) < 4294967296) ∧ (((¬ (R 2) = 1) → r = (.inl (some (.int (nI l3))), (G, (mI A, j), cc))) ∧ (((R 2) = 1) → (l4 < 2147483648) ∧ (((R 368) < 2147483648) ∧ ((((R 368) ≤ l4) → r = (.inl (some (.int (nI l3))), (G, (mI A, j), cc))) ∧ ((l4 < (R 368)) → ((369 + (4 * l4)) < 2066) ∧ (((R (369 + (4 * l4))) < 4294967296) ∧ ((which < 4294967296) ∧ (((¬ (R (369 + (4 * l4))) = which) → Ev X (d + 4) gvm_267 5 [some (.ref 263), some (.int (nI which)), some (.int (nI p)), some (.int (nI l3)), some (.int (nI (l4 + 1)))] [] (G, (mI A, j), cc) r) ∧ (((R (369 + (4 * l4))) = which) → (((hlS R (T p) p l4) = false) → Ev X (d + 4) gvm_267 5 [some (.ref 263), some (.int (nI which)), some (.int (nI p)), some (.int (nI l3)), some (.int (nI (l4 + 1)))] [] (G, (mI A11, j), cc) r) ∧ (((hlS R (T p) p l4) = true) → (((369 + (4 * l4)) + 1) < 2066) ∧ (Ev X (d + 4) gvm_267 5 [some (.ref 263), some (.int (nI which)), some (.int (nI p)), some (.int (nI (l3 + (A11 264 ((369 + (4 * l4)) + 1))))), some (.int (nI (l4 + 1)))] [] (G, (mI A11, j), cc) r)))))))))))) : Ev X (d + 4) gvm_267 5 [some (.ref 263), some (.int (nI which)), some (.int (nI p)), some (.int (nI l3)), some (.int (nI l4))] [] (G, (mI A, j), cc) r :=
  by
  subst hR hT
  exact (ev_aload_n rfl rfl   (ev_getP rfl rfl (oX12_k hp263) (oX12_1 hp263)   (en_iconst rfl rfl   (en_iald rfl (oX12_1c hp263) (by decide) (by decide) rfl (en_iconst rfl rfl   (en_ic_ne rfl H.1 (by decide) (fun c1 => (ev_iload_n rfl rfl   (ev_ireti rfl rfl (H.2.1 c1)))) (fun c1 => (ev_iload rfl rfl   (ev_aload_n rfl rfl   (ev_getP rfl rfl (oX12_k hp263) (oX12_1 hp263)   (en_sipush rfl rfl   (en_iald rfl (oX12_1c hp263) (by decide) (by decide) rfl (en_ic_ge rfl (H.2.2 c1).1 (H.2.2 c1).2.1 (fun c2 => (ev_iload_n rfl rfl   (ev_ireti rfl rfl ((H.2.2 c1).2.2.1 c2)))) (fun c2 => (ev_aload_n rfl rfl   (ev_getP rfl rfl (oX12_k hp263) (oX12_1 hp263)   (en_sipush rfl rfl   (en_iconst rfl rfl   (ev_iload rfl rfl   (en_imul rfl   (en_iadd rfl   (en_iald rfl (oX12_1c hp263) (by decide) ((H.2.2 c1).2.2.2 c2).1 rfl (ev_iload_n rfl rfl   (en_ic_ne rfl ((H.2.2 c1).2.2.2 c2).2.1 ((H.2.2 c1).2.2.2 c2).2.2.1 (fun c3 => (en_iinc rfl rfl rfl rfl   (ev_goto rfl (((H.2.2 c1).2.2.2 c2).2.2.2.1 c3)))) (fun c3 => (ev_aload_n rfl rfl   (ev_iload rfl rfl   (ev_iload_n rfl rfl   (ev_virt rfl rfl rfl rfl rfl (oX12_k hp263) rfl rfl rfl (v4 c1 c2 c3) (ev_if_eq_zo rfl  (fun c5 => (en_iinc rfl rfl rfl rfl   (ev_goto rfl ((((H.2.2 c1).2.2.2 c2).2.2.2.2 c3).1 c5)))) (fun c5 => (ev_iload_n rfl rfl   (ev_aload_n rfl rfl   (ev_getP rfl rfl (oX12_k hp263) (oX12_1 hp263)   (en_sipush rfl rfl   (en_iconst rfl rfl   (ev_iload rfl rfl   (en_imul rfl   (en_iadd rfl   (en_iconst rfl rfl   (en_iadd rfl   (en_iald rfl (oX12_1c hp263) (by decide) ((((H.2.2 c1).2.2.2 c2).2.2.2.2 c3).2 c5).1 rfl (en_iadd rfl   (ev_istore_n rfl rfl   (en_iinc rfl rfl rfl rfl   (ev_goto rfl ((((H.2.2 c1).2.2.2 c2).2.2.2.2 c3).2 c5).2))))))))))))))))))))))))))))))))))))))))))))))
theorem r_sumOf {X : gv_X} {d : Nat} {G : gv_Sh} {A : Nat → Nat → Nat} {j : Nat → Nat → Int64} {cc : gv_Rs} {which : Nat} {p : Nat} (hp263 : oX12 G 263) (p0 : okW (A 264)) (p1 : okLw (A 264)) (p2 : p < 8) (p3 : A 273 p < 16) (p4 : which < 4294967296) : ∃ A1 : Nat → Nat → Nat, Ev X (d + 4) gvm_267 0 (gv_enter [.ref 263, .int (nI which), .int (nI p)] 5) [] (G, (mI A, j), cc) (.inl (some (.int (nI (lsum (A 264) (A 273 p) p which)))), (G, (mI A1, j), cc)) ∧ (∀ q, q ≠ 275 → A1 q = A q) := by
  have hn := okW_n p0
  by_cases h2 : A 264 2 = 1
  · obtain ⟨hl, hk⟩ := p1 h2
    have e : lsum (A 264) (A 273 p) p which = (smN (A 264) (A 273 p) p which (A 264 368)) := if_pos h2
    rw [e]
    have L : ∀ i n B, i + n = A 264 368 → (∀ q, q ≠ 275 → B q = A q) → ∃ A1, Ev X (d + 4) gvm_267 5 [some (.ref 263), some (.int (nI which)), some (.int (nI p)), some (.int (nI (smN (A 264) (A 273 p) p which n))), some (.int (nI n))] [] (G, (mI B, j), cc) (.inl (some (.int (nI (smN (A 264) (A 273 p) p which (A 264 368))))), (G, (mI A1, j), cc)) ∧ ∀ q, q ≠ 275 → A1 q = A q := by
      intro i
      induction i with
      | zero =>
        intro n B hi hB
        obtain rfl : n = A 264 368 := by omega
        refine ⟨B, ?_, hB⟩
        refine w267_5 (A11 := B) hp263 (hB 264 (by decide)) (hB 273 (by decide)) (fun _ h => absurd h (Nat.lt_irrefl _)) ⟨by omega, fun c1 => absurd h2 c1, fun c1 => ⟨by omega, by omega, fun c2 => rfl, fun c2 => absurd c2 (Nat.lt_irrefl _)⟩⟩
      | succ i ih =>
        intro n B hi hB
        have hR := hB 264 (by decide)
        have hT := hB 273 (by decide)
        have ho := hk n (by omega)
        have hs := smN_le (R := A 264) (t := A 273 p) (p := p) (w := which) (n := n) (fun k h => hk k (by omega))
        have o1 := ho.1
        have o2 := ho.2.1
        obtain ⟨B1, hE, hf⟩ := r_holdsLine (X := X) (d := d) (G := G) (j := j) (cc := cc) (A := B) (line := n) (p := p) hp263 (hR ▸ p0) p2 (hT ▸ p3) (by omega) (hR ▸ ho)
        rw [hR, hT] at hE
        have hB1 : ∀ q, q ≠ 275 → B1 q = A q := fun q hq => (hf q hq).trans (hB q hq)
        have a1 : B1 264 (369 + 4 * n + 1) = A 264 (369 + 4 * n + 1) := by rw [hB1 264 (by decide)]
        have es : (smN (A 264) (A 273 p) p which (n + 1)) = (smN (A 264) (A 273 p) p which n) + (if A 264 (369 + 4 * n) = which ∧ hlS (A 264) (A 273 p) p n = true then A 264 (369 + 4 * n + 1) else 0) := rfl
        by_cases k1 : A 264 (369 + 4 * n) = which
        · cases k2 : hlS (A 264) (A 273 p) p n with
          | true =>
            obtain ⟨A1, h1, h3⟩ := ih (n + 1) B1 (by omega) hB1
            rw [es, if_pos ⟨k1, k2⟩] at h1
            refine ⟨A1, ?_, h3⟩
            refine w267_5 hp263 hR hT (fun _ _ _ => hE) ⟨by (first | omega | (rw [a1]; omega)), ⟨fun c1 => ?_, fun c1 => ⟨by (first | omega | (rw [a1]; omega)), ⟨by (first | omega | (rw [a1]; omega)), ⟨fun c2 => ?_, fun c2 => ⟨by (first | omega | (rw [a1]; omega)), ⟨by (first | omega | (rw [a1]; omega)), ⟨by (first | omega | (rw [a1]; omega)), ⟨fun c3 => ?_, fun c3 => ⟨fun c5 => ?_, fun c5 => ⟨by (first | omega | (rw [a1]; omega)), ?_⟩⟩⟩⟩⟩⟩⟩⟩⟩⟩⟩
            all_goals first | exact absurd h2 c1 | omega | exact absurd k1 c3 | exact absurd (k2.symm.trans c5) (by decide) | (rw [a1]; exact h1)
          | false =>
            obtain ⟨A1, h1, h3⟩ := ih (n + 1) B1 (by omega) hB1
            rw [es, if_neg (fun z => absurd (k2.symm.trans z.2) (by decide)), Nat.add_zero] at h1
            refine ⟨A1, ?_, h3⟩
            refine w267_5 hp263 hR hT (fun _ _ _ => hE) ⟨by (first | omega | (rw [a1]; omega)), ⟨fun c1 => ?_, fun c1 => ⟨by (first | omega | (rw [a1]; omega)), ⟨by (first | omega | (rw [a1]; omega)), ⟨fun c2 => ?_, fun c2 => ⟨by (first | omega | (rw [a1]; omega)), ⟨by (first | omega | (rw [a1]; omega)), ⟨by (first | omega | (rw [a1]; omega)), ⟨fun c3 => ?_, fun c3 => ⟨fun c5 => ?_, fun c5 => ⟨by (first | omega | (rw [a1]; omega)), ?_⟩⟩⟩⟩⟩⟩⟩⟩⟩⟩⟩
            all_goals first | exact absurd h2 c1 | omega | exact absurd k1 c3 | exact absurd (k2.symm.trans c5) (by decide) | exact h1
        · obtain ⟨A1, h1, h3⟩ := ih (n + 1) B (by omega) hB
          rw [es, if_neg (fun z => k1 z.1), Nat.add_zero] at h1
          refine ⟨A1, ?_, h3⟩
          refine w267_5 hp263 hR hT (fun _ _ _ => hE) ⟨by (first | omega | (rw [a1]; omega)), ⟨fun c1 => ?_, fun c1 => ⟨by (first | omega | (rw [a1]; omega)), ⟨by (first | omega | (rw [a1]; omega)), ⟨fun c2 => ?_, fun c2 => ⟨by (first | omega | (rw [a1]; omega)), ⟨by (first | omega | (rw [a1]; omega)), ⟨by (first | omega | (rw [a1]; omega)), ⟨fun c3 => ?_, fun c3 => ⟨fun c5 => ?_, fun c5 => ⟨by (first | omega | (rw [a1]; omega)), ?_⟩⟩⟩⟩⟩⟩⟩⟩⟩⟩⟩
          all_goals first | exact absurd h2 c1 | omega | exact absurd c3 k1 | exact h1
    obtain ⟨A1, h1, h3⟩ := L (A 264 368) 0 A (by omega) (fun _ _ => rfl)
    exact ⟨A1, w267 hp263 rfl rfl h1, h3⟩
  · have e : lsum (A 264) (A 273 p) p which = 0 := if_neg h2
    rw [e]
    refine ⟨A, w267 hp263 rfl rfl ?_, fun _ _ => rfl⟩
    refine w267_5 (A11 := A) hp263 rfl rfl (fun h => absurd h h2) ⟨by omega, fun c1 => rfl, fun c1 => absurd c1 h2⟩
theorem w268 {X : gv_X} {d : Nat} {G : gv_Sh} {A : Nat → Nat → Nat} {j : Nat → Nat → Int64} {cc : gv_Rs} {r : gv_O × gv_S} {p : Nat} {A11 : Nat → Nat → Nat} (hp263 : oX12 G 263) (v1 : Ev X (d + 0 + 4) gvm_267 0 (gv_enter [.ref 263, .int (nI 0), .int (nI p)] 5) [] (G, (mI A, j), cc) (.inl (some (.int (nI (lsum (A 264) (A 273 p) p 0)))), (G, (mI A11, j), cc))) (H : r = (.inl (some (.int (nI ((A 264 6) + (lsum (A 264) (A 273 p) p 0))))), (G, (mI A11, j), cc))) : Ev X (d + 5) gvm_268 0 (gv_enter [.ref 263, .int (nI p)] 2) [] (G, (mI A, j), cc) r :=
  (ev_aload_n rfl rfl   (ev_getP rfl rfl (oX12_k hp263) (oX12_1 hp263)   (en_bipush rfl rfl   (en_iald rfl (oX12_1c hp263) (by decide) (by decide) rfl (ev_aload_n rfl rfl   (en_iconst rfl rfl   (ev_iload_n rfl rfl   (ev_virt rfl rfl rfl rfl rfl (oX12_k hp263) rfl rfl rfl (v1 ) (en_iadd rfl   (ev_ireti rfl rfl H))))))))))
theorem r_emulationOf {X : gv_X} {d : Nat} {G : gv_Sh} {A : Nat → Nat → Nat} {j : Nat → Nat → Int64} {cc : gv_Rs} {p : Nat} (hp263 : oX12 G 263) (p0 : okW (A 264)) (p1 : okLw (A 264)) (p2 : p < 8) (p3 : A 273 p < 16) : ∃ A1 : Nat → Nat → Nat, Ev X (d + 5) gvm_268 0 (gv_enter [.ref 263, .int (nI p)] 2) [] (G, (mI A, j), cc) (.inl (some (.int (nI (A 264 6 + lsum (A 264) (A 273 p) p 0)))), (G, (mI A1, j), cc)) ∧ (∀ q, q ≠ 275 → A1 q = A q) := by
  obtain ⟨A1, hE, hf⟩ := r_sumOf (X := X) (d := d) (G := G) (j := j) (cc := cc) (which := 0) hp263 p0 p1 p2 p3 (by omega)
  refine ⟨A1, ?_, hf⟩
  refine w268 hp263 hE ?_
  rfl
theorem w269 {X : gv_X} {d : Nat} {G : gv_Sh} {A : Nat → Nat → Nat} {j : Nat → Nat → Int64} {cc : gv_Rs} {r : gv_O × gv_S} {p : Nat} {A11 : Nat → Nat → Nat} (hp263 : oX12 G 263) (v1 : Ev X (d + 0 + 4) gvm_267 0 (gv_enter [.ref 263, .int (nI 2), .int (nI p)] 5) [] (G, (mI A, j), cc) (.inl (some (.int (nI (lsum (A 264) (A 273 p) p 2)))), (G, (mI A11, j), cc))) (H : r = (.inl (some (.int (nI (1 + (lsum (A 264) (A 273 p) p 2))))), (G, (mI A11, j), cc))) : Ev X (d + 5) gvm_269 0 (gv_enter [.ref 263, .int (nI p)] 2) [] (G, (mI A, j), cc) r :=
  (en_iconst rfl rfl   (ev_aload_n rfl rfl   (en_iconst rfl rfl   (ev_iload_n rfl rfl   (ev_virt rfl rfl rfl rfl rfl (oX12_k hp263) rfl rfl rfl (v1 ) (en_iadd rfl   (ev_ireti rfl rfl H)))))))
theorem r_worthOf {X : gv_X} {d : Nat} {G : gv_Sh} {A : Nat → Nat → Nat} {j : Nat → Nat → Int64} {cc : gv_Rs} {p : Nat} (hp263 : oX12 G 263) (p0 : okW (A 264)) (p1 : okLw (A 264)) (p2 : p < 8) (p3 : A 273 p < 16) : ∃ A1 : Nat → Nat → Nat, Ev X (d + 5) gvm_269 0 (gv_enter [.ref 263, .int (nI p)] 2) [] (G, (mI A, j), cc) (.inl (some (.int (nI (1 + lsum (A 264) (A 273 p) p 2)))), (G, (mI A1, j), cc)) ∧ (∀ q, q ≠ 275 → A1 q = A q) := by
  obtain ⟨A1, hE, hf⟩ := r_sumOf (X := X) (d := d) (G := G) (j := j) (cc := cc) (which := 2) hp263 p0 p1 p2 p3 (by omega)
  refine ⟨A1, ?_, hf⟩
  refine w269 hp263 hE ?_
  rfl
