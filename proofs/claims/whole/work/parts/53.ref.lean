/-! a tick, and many -/
theorem w278 {X : gv_X} {d : Nat} {G : gv_Sh} {A : Nat → Nat → Nat} {j : Nat → Nat → Int64} {cc : gv_Rs} {r : gv_O × gv_S} {al : Bool} (hp263 : oX12 G 263) (H : (okW (A 264)) ∧ ((((102 + (13 * 1)) + 0) < 2066) ∧ ((okW (A 264)) ∧ ((((decide (A 264 3 ≤ A 264 (102 + 13 * 1 + 0))) = true) → Ev X (d + 7) gvm_278 39 [some (.ref 263), some (.int (zo al)), some (.int (zo (alk (A 264)))), some (.int (nI (A 264 ((102 + (13 * 1)) + 0)))), some (.int (nI 4294967295)), none, none] [] (G, (mI A, j), cc) r) ∧ (((decide (A 264 3 ≤ A 264 (102 + 13 * 1 + 0))) = false) → ((al = false) → ((12 + (A 264 ((102 + (13 * 1)) + 0))) < 2066) ∧ (Ev X (d + 7) gvm_278 39 [some (.ref 263), some (.int (zo al)), some (.int (zo (alk (A 264)))), some (.int (nI (A 264 ((102 + (13 * 1)) + 0)))), some (.int (nI (A 264 (12 + (A 264 ((102 + (13 * 1)) + 0)))))), none, none] [] (G, (mI A, j), cc) r)) ∧ ((al = true) → Ev X (d + 7) gvm_278 39 [some (.ref 263), some (.int (zo al)), some (.int (zo (alk (A 264)))), some (.int (nI (A 264 ((102 + (13 * 1)) + 0)))), some (.int (nI 4294967295)), none, none] [] (G, (mI A, j), cc) r)))))) : Ev X (d + 7) gvm_278 0 (gv_enter [.ref 263, .int (zo al)] 7) [] (G, (mI A, j), cc) r :=
  (ev_aload_n rfl rfl   (ev_virt rfl rfl rfl rfl rfl (oX12_k hp263) rfl rfl rfl (r_areAlike (A := A) hp263 H.1 ) (ev_istore_n rfl rfl   (ev_aload_n rfl rfl   (en_iconst rfl rfl   (en_iconst rfl rfl   (ev_virt rfl rfl rfl rfl rfl (oX12_k hp263) rfl rfl rfl (r_ofGuest (g := 1) (what := 0) (A := A) hp263 H.2.1 ) (ev_istore_n rfl rfl   (ev_aload_n rfl rfl   (en_iconst rfl rfl   (ev_virt rfl rfl rfl rfl rfl (oX12_k hp263) rfl rfl rfl (r_isHalted (g := 1) (A := A) hp263 H.2.2.1 (by decide) ) (ev_if_ne_zo rfl  (fun c1 => (en_iconst rfl (by decide)   (ev_goto rfl (ev_istore rfl rfl   (H.2.2.2.1 c1))))) (fun c1 => (ev_iload_n rfl rfl   (ev_if_eq_zo rfl  (fun c2 => (ev_aload_n rfl rfl   (ev_getP rfl rfl (oX12_k hp263) (oX12_1 hp263)   (en_bipush rfl rfl   (ev_iload_n rfl rfl   (en_iadd rfl   (en_iald rfl (oX12_1c hp263) (by decide) ((H.2.2.2.2 c1).1 c2).1 rfl (ev_istore rfl rfl   ((H.2.2.2.2 c1).1 c2).2)))))))) (fun c2 => (en_iconst rfl (by decide)   (ev_goto rfl (ev_istore rfl rfl   ((H.2.2.2.2 c1).2 c2))))))))))))))))))))
theorem w278_39 {X : gv_X} {d : Nat} {G : gv_Sh} {A : Nat → Nat → Nat} {j : Nat → Nat → Int64} {cc : gv_Rs} {r : gv_O × gv_S} {al : Bool} {l2 : Bool} {l3 : Nat} {l4 : Nat} {A11 : Nat → Nat → Nat} {A12 : Nat → Nat → Nat} {A5 : Nat → Nat → Nat} {A6 : Nat → Nat → Nat} {A7 : Nat → Nat → Nat} {A8 : Nat → Nat → Nat} (hp263 : oX12 G 263) (v2 : (al = false) → Ev X (d + 2 + 4) gvm_274 0 (gv_enter [.ref 263] 2) [] (G, (mI A, j), cc) (.inl none, (G, (mI A11, j), cc))) (v3 : (al = false) → Ev X (d + 0 + 6) gvm_275 0 (gv_enter [.ref 263] 4) [] (G, (mI A11, j), cc) (.inl (some (.int (nI (hoW (A11 264))))), (G, (mI A12, j), cc))) (q5 : A5 = (gw A12 264 (toR (A12 264) l4 (hoW (A11 264)) l3))) (q6 : A6 = (gw A 264 (toR (A 264) 4294967295 4 l3))) (q7 : A7 = (gu (gu A6 264 (102 + 13 * 0 + 2) 1) 264 (102 + 13 * 0 + 0) (A6 264 4))) (q8 : A8 = (gu (gu A7 264 (102 + 13 * 1 + 2) 1) 264 (102 + 13 * 1 + 0) (A7 264 4))) (H : ((al = false) → ((hoW (A11 264)) < 4294967296) ∧ ((((hoW (A11 264)) = 4294967295) → Ev X (d + 7) gvm_278 91 [some (.ref 263), some (.int (zo al)), some (.int (zo l2)), some (.int (nI l3)), some (.int (nI l4)), some (.int (nI (hoW (A11 264)))), none] [] (G, (mI A12, j), cc) r) ∧ ((¬ (hoW (A11 264)) = 4294967295) → (okW (A12 264)) ∧ (Ev X (d + 7) gvm_278 91 [some (.ref 263), some (.int (zo al)), some (.int (zo l2)), some (.int (nI l3)), some (.int (nI l4)), some (.int (nI (hoW (A11 264)))), none] [] (G, (mI A5, j), cc) r)))) ∧ ((al = true) → (okW (A 264)) ∧ (Ev X (d + 7) gvm_278 91 [some (.ref 263), some (.int (zo al)), some (.int (zo l2)), some (.int (nI l3)), some (.int (nI l4)), some (.int (nI 4294967295)), none] [] (G, (mI A8, j), cc) r))) : Ev X (d + 7) gvm_278 39 [some (.ref 263), some (.int (zo al)), some (.int (zo l2)), some (.int (nI l3)), some (.int (nI l4)), none, none] [] (G, (mI A, j), cc) r :=
  (en_iconst rfl (by decide)   (ev_istore rfl rfl   (ev_iload_n rfl rfl   (ev_if_eq_zo rfl  (fun c1 => (ev_aload_n rfl rfl   (ev_virt rfl rfl rfl rfl rfl (oX12_k hp263) rfl rfl rfl (v2 c1) (ev_aload_n rfl rfl   (ev_virt rfl rfl rfl rfl rfl (oX12_k hp263) rfl rfl rfl (v3 c1) (ev_istore rfl rfl   (ev_iload rfl rfl   (en_iconst rfl (by decide)   (en_ic_eq rfl (H.1 c1).1 (by decide) (fun c4 => ((H.1 c1).2.1 c4)) (fun c4 => (ev_aload_n rfl rfl   (ev_iload rfl rfl   (ev_iload rfl rfl   (ev_iload_n rfl rfl   (ev_virt rfl rfl rfl rfl rfl (oX12_k hp263) rfl rfl rfl (ev_eqM q5 (r_isTold (p := l4) (what := (hoW (A11 264))) (pc := l3) (A := A12) hp263 ((H.1 c1).2.2 c4).1 )) ((H.1 c1).2.2 c4).2))))))))))))))) (fun c1 => (ev_aload_n rfl rfl   (en_iconst rfl (by decide)   (en_iconst rfl rfl   (ev_iload_n rfl rfl   (ev_virt rfl rfl rfl rfl rfl (oX12_k hp263) rfl rfl rfl (ev_eqM q6 (r_isTold (p := 4294967295) (what := 4) (pc := l3) (A := A) hp263 (H.2 c1).1 )) (ev_aload_n rfl rfl   (en_iconst rfl rfl   (ev_virt rfl rfl rfl rfl rfl (oX12_k hp263) rfl rfl rfl (ev_eqM q7 (r_isCaught (g := 0) (A := A6) hp263 (by decide) )) (ev_aload_n rfl rfl   (en_iconst rfl rfl   (ev_virt rfl rfl rfl rfl rfl (oX12_k hp263) rfl rfl rfl (ev_eqM q8 (r_isCaught (g := 1) (A := A7) hp263 (by decide) )) (ev_goto rfl (H.2 c1).2)))))))))))))))))
theorem w278_91 {X : gv_X} {d : Nat} {G : gv_Sh} {A : Nat → Nat → Nat} {j : Nat → Nat → Int64} {cc : gv_Rs} {r : gv_O × gv_S} {al : Bool} {l2 : Bool} {l3 : Nat} {l4 : Nat} {l5 : Nat} {A3 : Nat → Nat → Nat} (hp263 : oX12 G 263) (q3 : A3 = (gw A 264 (toR (A 264) l4 3 l3))) (H : ((l2 = false) → Ev X (d + 7) gvm_278 110 [some (.ref 263), some (.int (zo al)), some (.int (zo l2)), some (.int (nI l3)), some (.int (nI l4)), some (.int (nI l5)), none] [] (G, (mI A, j), cc) r) ∧ ((l2 = true) → (okW (A 264)) ∧ ((((alk (A 264)) = true) → Ev X (d + 7) gvm_278 110 [some (.ref 263), some (.int (zo al)), some (.int (zo l2)), some (.int (nI l3)), some (.int (nI l4)), some (.int (nI l5)), none] [] (G, (mI A, j), cc) r) ∧ (((alk (A 264)) = false) → (okW (A 264)) ∧ (Ev X (d + 7) gvm_278 110 [some (.ref 263), some (.int (zo al)), some (.int (zo l2)), some (.int (nI l3)), some (.int (nI l4)), some (.int (nI l5)), none] [] (G, (mI A3, j), cc) r))))) : Ev X (d + 7) gvm_278 91 [some (.ref 263), some (.int (zo al)), some (.int (zo l2)), some (.int (nI l3)), some (.int (nI l4)), some (.int (nI l5)), none] [] (G, (mI A, j), cc) r :=
  (ev_iload_n rfl rfl   (ev_if_eq_zo rfl  (fun c1 => (H.1 c1)) (fun c1 => (ev_aload_n rfl rfl   (ev_virt rfl rfl rfl rfl rfl (oX12_k hp263) rfl rfl rfl (r_areAlike (A := A) hp263 (H.2 c1).1 ) (ev_if_ne_zo rfl  (fun c2 => ((H.2 c1).2.1 c2)) (fun c2 => (ev_aload_n rfl rfl   (ev_iload rfl rfl   (en_iconst rfl rfl   (ev_iload_n rfl rfl   (ev_virt rfl rfl rfl rfl rfl (oX12_k hp263) rfl rfl rfl (ev_eqM q3 (r_isTold (p := l4) (what := 3) (pc := l3) (A := A) hp263 ((H.2 c1).2.2 c2).1 )) ((H.2 c1).2.2 c2).2))))))))))))
theorem w278_110 {X : gv_X} {d : Nat} {G : gv_Sh} {A : Nat → Nat → Nat} {j : Nat → Nat → Int64} {cc : gv_Rs} {r : gv_O × gv_S} {al : Bool} {l2 : Bool} {l3 : Nat} {l4 : Nat} {l5 : Nat} {A12 : Nat → Nat → Nat} (hp263 : oX12 G 263) (v2 : ((inN l5 0 1) = true) → Ev X (d + 1 + 5) gvm_269 0 (gv_enter [.ref 263, .int (nI l4)] 2) [] (G, (mI A, j), cc) (.inl (some (.int (nI (1 + lsum (A 264) (A 273 l4) l4 2)))), (G, (mI A12, j), cc))) (H : (((inN l5 0 1) = false) → Ev X (d + 7) gvm_278 151 [some (.ref 263), some (.int (zo al)), some (.int (zo l2)), some (.int (nI l3)), some (.int (nI l4)), some (.int (nI l5)), some (.int (zo (inN l5 0 1)))] [] (G, (mI A, j), cc) r) ∧ (((inN l5 0 1) = true) → (((A 264 9) + (1 + lsum (A 264) (A 273 l4) l4 2)) < 2147483648) ∧ (Ev X (d + 7) gvm_278 151 [some (.ref 263), some (.int (zo al)), some (.int (zo l2)), some (.int (nI l3)), some (.int (nI l4)), some (.int (nI l5)), some (.int (zo (inN l5 0 1)))] [] (G, (mI (gu A12 264 9 (min 9999 ((A 264 9) + (1 + lsum (A 264) (A 273 l4) l4 2)))), j), cc) r))) : Ev X (d + 7) gvm_278 110 [some (.ref 263), some (.int (zo al)), some (.int (zo l2)), some (.int (nI l3)), some (.int (nI l4)), some (.int (nI l5)), none] [] (G, (mI A, j), cc) r :=
  (ev_iload rfl rfl   (en_iconst rfl rfl   (en_iconst rfl rfl   (ev_stat rfl rfl rfl rfl rfl rfl rfl rfl (r_in (v := l5) (low := 0) (high := 1) (A := A)  ) (ev_istore rfl rfl   (ev_iload rfl rfl   (ev_if_eq_zo rfl  (fun c1 => (H.1 c1)) (fun c1 => (ev_aload_n rfl rfl   (ev_getP rfl rfl (oX12_k hp263) (oX12_1 hp263)   (en_bipush rfl rfl   (en_sipush rfl rfl   (ev_aload_n rfl rfl   (ev_getP rfl rfl (oX12_k hp263) (oX12_1 hp263)   (en_bipush rfl rfl   (en_iald rfl (oX12_1c hp263) (by decide) (by decide) rfl (ev_aload_n rfl rfl   (ev_iload rfl rfl   (ev_virt rfl rfl rfl rfl rfl (oX12_k hp263) rfl rfl rfl (v2 c1) (en_iadd rfl   (ev_stat rfl rfl rfl rfl rfl rfl rfl rfl (k_min (a := 9999) (b := ((A 264 9) + (1 + lsum (A 264) (A 273 l4) l4 2))) (A := A12) (by decide) (H.2 c1).1 ) (en_iast rfl (oX12_1c hp263) (by decide) (by decide)  (H.2 c1).2))))))))))))))))))))))
theorem w278_151 {X : gv_X} {d : Nat} {G : gv_Sh} {A : Nat → Nat → Nat} {j : Nat → Nat → Int64} {cc : gv_Rs} {r : gv_O × gv_S} {al : Bool} {l2 : Bool} {l3 : Nat} {l4 : Nat} {l5 : Nat} {l6 : Bool} (hp263 : oX12 G 263) (H : (((A 264 8) + 1) < 2147483648) ∧ (r = (.inl (some (.int (zo l6))), (G, (mI (gu A 264 8 (min 9999 ((A 264 8) + 1))), j), cc)))) : Ev X (d + 7) gvm_278 151 [some (.ref 263), some (.int (zo al)), some (.int (zo l2)), some (.int (nI l3)), some (.int (nI l4)), some (.int (nI l5)), some (.int (zo l6))] [] (G, (mI A, j), cc) r :=
  (ev_aload_n rfl rfl   (ev_getP rfl rfl (oX12_k hp263) (oX12_1 hp263)   (en_bipush rfl rfl   (en_sipush rfl rfl   (ev_aload_n rfl rfl   (ev_getP rfl rfl (oX12_k hp263) (oX12_1 hp263)   (en_bipush rfl rfl   (en_iald rfl (oX12_1c hp263) (by decide) (by decide) rfl (en_iconst rfl rfl   (en_iadd rfl   (ev_stat rfl rfl rfl rfl rfl rfl rfl rfl (k_min (a := 9999) (b := ((A 264 8) + 1)) (A := A) (by decide) H.1 ) (en_iast rfl (oX12_1c hp263) (by decide) (by decide)  (ev_iload rfl rfl   (ev_iretz rfl rfl (zo_b _) H.2))))))))))))))
theorem r_oneTick {X : gv_X} {d : Nat} {G : gv_Sh} {A : Nat → Nat → Nat} {j : Nat → Nat → Int64} {cc : gv_Rs} {al : Bool} (hp263 : oX12 G 263) (p0 : okW (A 264)) (p1 : okLw (A 264)) (p2 : ∀ p, p < 8 → A 273 p < 16) : ∃ A1 : Nat → Nat → Nat, Ev X (d + 7) gvm_278 0 (gv_enter [.ref 263, .int (zo al)] 7) [] (G, (mI A, j), cc) (.inl (some (.int (zo (tkB (A 264) al)))), (G, (mI A1, j), cc)) ∧ (A1 264 = tkR (A 264) (A 273) al) ∧ (frG A A1) := by
  have hn := okW_n p0
  have hg := okW_g p0 (g := 1) (by omega)
  have hP := tkP_lt p0 al
  obtain ⟨how, hhow⟩ : ∃ how, how = if al = true then 4294967295 else hoW (baR (A 264)) := ⟨_, rfl⟩
  have hhl : how < 4294967296 := by
    rw [hhow]
    split
    · decide
    · exact hoW_lt _
  have hin : inN how 0 1 = tkB (A 264) al := by
    rw [inN_0 hhl (by decide), hhow]
    unfold tkB
    cases al
    · rfl
    · rfl
  have S151 : ∀ B, B 264 = tk3 (A 264) (A 273) al → frG A B → ∃ A1, Ev X (d + 7) gvm_278 151 [some (.ref 263), some (.int (zo al)), some (.int (zo (alk (A 264)))), some (.int (nI (A 264 (102 + 13 * 1 + 0)))), some (.int (nI (tkP (A 264) al))), some (.int (nI how)), some (.int (zo (tkB (A 264) al)))] [] (G, (mI B, j), cc) (.inl (some (.int (zo (tkB (A 264) al)))), (G, (mI A1, j), cc)) ∧ A1 264 = tkR (A 264) (A 273) al ∧ frG A A1 := by
    intro B hB hf
    have h8 : B 264 8 ≤ 9999 := by rw [hB]; exact (okW_n (ok_tk3 p0 (A 273) al).1).2.2.2.2.2.2.2.2.2.1
    refine ⟨gu B 264 8 (min 9999 (B 264 8 + 1)), ?_, ?_, frG_tr hf (frG_gu _ _ _)⟩
    · refine w278_151 hp263  ⟨by omega, ?_⟩
      rfl
    · rw [gu_at, hB]
      rfl
  have S110 : ∀ B, B 264 = tk2 (A 264) (A 273) al → frG A B → ∃ A1, Ev X (d + 7) gvm_278 110 [some (.ref 263), some (.int (zo al)), some (.int (zo (alk (A 264)))), some (.int (nI (A 264 (102 + 13 * 1 + 0)))), some (.int (nI (tkP (A 264) al))), some (.int (nI how)), none] [] (G, (mI B, j), cc) (.inl (some (.int (zo (tkB (A 264) al)))), (G, (mI A1, j), cc)) ∧ A1 264 = tkR (A 264) (A 273) al ∧ frG A A1 := by
    intro B hB hf
    obtain ⟨o2, x2⟩ := ok_tk2 p0 (A 273) al
    have hT : B 273 = A 273 := hf.1 273 (by decide) (by decide) (by decide) (by decide)
    cases ht : tkB (A 264) al with
    | false =>
      obtain ⟨A1, hE, h⟩ := S151 B (by rw [hB]; unfold tk3; rw [if_neg (by rw [ht]; decide)]) hf
      rw [ht] at hE
      refine ⟨A1, ?_, h⟩
      refine w278_110 (A12 := B) hp263 (fun z => absurd (((hin.trans ht).symm.trans z)) (by decide)) ⟨fun c1 => ?_, fun c1 => absurd ((hin.trans ht).symm.trans c1) (by decide)⟩
      rw [hin, ht]
      exact hE
    | true =>
      obtain ⟨e1, e2, e3⟩ := tkP_f p0 ht
      have h8 : tkP (A 264) al < 8 := by rw [e3]; have := hoP_lt p0 e2; omega
      obtain ⟨B1, hE1, hf1⟩ := r_worthOf (X := X) (d := d + 1) (G := G) (j := j) (cc := cc) (A := B) (p := tkP (A 264) al) hp263 (hB ▸ o2) (hB ▸ okLw_X p1 x2) h8 (by rw [hT]; exact p2 _ h8)
      have hle := lsum_le (t := B 273 (tkP (A 264) al)) (p := tkP (A 264) al) (w := 2) (hB ▸ okLw_X p1 x2 : okLw (B 264))
      have h9 : B 264 9 ≤ 9999 := by rw [hB]; exact (okW_n o2).2.2.2.2.2.2.2.2.2.2.1
      obtain ⟨A1, hE, h⟩ := S151 (gu B1 264 9 (min 9999 (B 264 9 + (1 + lsum (B 264) (B 273 (tkP (A 264) al)) (tkP (A 264) al) 2)))) (by
        rw [gu_at, hf1 264 (by decide), hB, hT]
        unfold tk3
        rw [if_pos ht]
        rfl) (frG_tr hf (frG_tr (frG_275 hf1) (frG_gu _ _ _)))
      rw [ht] at hE
      refine ⟨A1, ?_, h⟩
      refine w278_110 hp263 (fun _ => hE1) ⟨fun c1 => absurd ((hin.trans ht).symm.trans c1) (by decide), fun c1 => ⟨by omega, ?_⟩⟩
      rw [hin, ht]
      exact hE
  have S91 : ∀ B, B 264 = tk1 (A 264) (A 273) al → frG A B → ∃ A1, Ev X (d + 7) gvm_278 91 [some (.ref 263), some (.int (zo al)), some (.int (zo (alk (A 264)))), some (.int (nI (A 264 (102 + 13 * 1 + 0)))), some (.int (nI (tkP (A 264) al))), some (.int (nI how)), none] [] (G, (mI B, j), cc) (.inl (some (.int (zo (tkB (A 264) al)))), (G, (mI A1, j), cc)) ∧ A1 264 = tkR (A 264) (A 273) al ∧ frG A A1 := by
    intro B hB hf
    obtain ⟨o1, x1⟩ := ok_tk1 p0 (A 273) al
    by_cases hc : alk (A 264) = true ∧ alk (tk1 (A 264) (A 273) al) = false
    · obtain ⟨C, hC⟩ : ∃ C, C = gw B 264 (toR (B 264) (tkP (A 264) al) 3 (A 264 (102 + 13 * 1 + 0))) := ⟨_, rfl⟩
      obtain ⟨A1, hE, h⟩ := S110 C (by rw [hC, gw_at, hB]; unfold tk2; rw [if_pos hc]) (by rw [hC]; exact frG_tr hf (frG_gw _ _))
      refine ⟨A1, ?_, h⟩
      refine w278_91 hp263 hC ⟨fun c1 => absurd (hc.1.symm.trans c1) (by decide), fun c1 => ⟨hB ▸ o1, fun c2 => ?_, fun c2 => ⟨hB ▸ o1, hE⟩⟩⟩
      rw [hB] at c2
      exact absurd (hc.2.symm.trans c2) (by decide)
    · obtain ⟨A1, hE, h⟩ := S110 B (by rw [hB]; unfold tk2; rw [if_neg hc]) hf
      refine ⟨A1, ?_, h⟩
      refine w278_91 hp263 rfl ⟨fun c1 => hE, fun c1 => ⟨hB ▸ o1, fun c2 => hE, fun c2 => ?_⟩⟩
      rw [hB] at c2
      exact absurd ⟨c1, c2⟩ hc
  have S39 : ∃ A1, Ev X (d + 7) gvm_278 39 [some (.ref 263), some (.int (zo al)), some (.int (zo (alk (A 264)))), some (.int (nI (A 264 (102 + 13 * 1 + 0)))), some (.int (nI (tkP (A 264) al))), none, none] [] (G, (mI A, j), cc) (.inl (some (.int (zo (tkB (A 264) al)))), (G, (mI A1, j), cc)) ∧ A1 264 = tkR (A 264) (A 273) al ∧ frG A A1 := by
    obtain ⟨B1, hE1, b1, f1⟩ := r_bareSteps (X := X) (d := d + 2) (G := G) (j := j) (cc := cc) (A := A) hp263 p0
    have hT : B1 273 = A 273 := f1.1 273 (by decide) (by decide) (by decide) (by decide)
    obtain ⟨B2, hE2, b2, f2⟩ := r_hostedSteps (X := X) (d := d) (G := G) (j := j) (cc := cc) (A := B1) hp263 (b1 ▸ okW_ba p0) (b1 ▸ okLw_G p1 (eqG_ba _)) (by rw [hT]; exact p2)
    have b3 : B2 264 = hoR (baR (A 264)) (A 273) := by rw [b2, b1, hT]
    have o3 : okW (B2 264) := by rw [b3]; exact okW_ho (okW_ba p0) _
    obtain ⟨A5, q5⟩ : ∃ Zz, Zz = (gw B2 264 (toR (B2 264) (tkP (A 264) al) (hoW (B1 264)) (A 264 (102 + 13 * 1 + 0)))) := ⟨_, rfl⟩
    obtain ⟨A6, q6⟩ : ∃ Zz, Zz = (gw A 264 (toR (A 264) 4294967295 4 (A 264 (102 + 13 * 1 + 0)))) := ⟨_, rfl⟩
    obtain ⟨A7, q7⟩ : ∃ Zz, Zz = (gu (gu A6 264 (102 + 13 * 0 + 2) 1) 264 (102 + 13 * 0 + 0) (A6 264 4)) := ⟨_, rfl⟩
    obtain ⟨A8, q8⟩ : ∃ Zz, Zz = (gu (gu A7 264 (102 + 13 * 1 + 2) 1) 264 (102 + 13 * 1 + 0) (A7 264 4)) := ⟨_, rfl⟩
    have e6 : A6 264 = toR (A 264) 4294967295 4 (A 264 (102 + 13 * 1 + 0)) := by rw [q6, gw_at]
    have e7 : A7 264 = ctR (A6 264) 0 := by rw [q7]; exact gu_ct A6 0
    have e8 : A8 264 = ctR (A7 264) 1 := by rw [q8]; exact gu_ct A7 1
    cases al with
    | true =>
      obtain ⟨A1, hE, h⟩ := S91 A8 (by rw [e8, e7, e6]; rfl) (by
        rw [q8, q7, q6]
        exact frG_tr (frG_gw _ _) (frG_tr (frG_tr (frG_gu _ _ _) (frG_gu _ _ _)) (frG_tr (frG_gu _ _ _) (frG_gu _ _ _))))
      rw [hhow] at hE
      refine ⟨A1, ?_, h⟩
      refine w278_39 hp263 (fun _ => hE1) (fun _ => hE2) q5 q6 q7 q8 ⟨fun c1 => ⟨by (first | omega | assumption | (cases c1)), ⟨fun c4 => ?_, fun c4 => ⟨by (first | omega | assumption | (cases c1)), ?_⟩⟩⟩, fun c1 => ⟨by (first | omega | assumption | (cases c1)), ?_⟩⟩
      all_goals first | exact hE | cases c1
    | false =>
      have hw : how = hoW (B1 264) := by rw [hhow, b1]; rfl
      by_cases hk : hoW (B1 264) = 4294967295
      · obtain ⟨A1, hE, h⟩ := S91 B2 (by
          rw [b3]
          unfold tk1
          rw [if_neg (by decide), if_pos (b1 ▸ hk)]) (frG_tr f1 f2)
        rw [hw] at hE
        refine ⟨A1, ?_, h⟩
        refine w278_39 hp263 (fun _ => hE1) (fun _ => hE2) q5 q6 q7 q8 ⟨fun c1 => ⟨by (first | omega | assumption | (rw [b1]; exact hoW_lt _)), ⟨fun c4 => ?_, fun c4 => ⟨by (first | omega | assumption | (rw [b1]; exact hoW_lt _)), ?_⟩⟩⟩, fun c1 => ⟨by (first | omega | assumption | (rw [b1]; exact hoW_lt _)), ?_⟩⟩
        all_goals first | exact hE | exact absurd hk c4 | cases c1
      · obtain ⟨A1, hE, h⟩ := S91 A5 (by
          rw [q5, gw_at, b3, b1]
          unfold tk1
          rw [if_neg (by decide), if_neg (b1 ▸ hk)]) (by rw [q5]; exact frG_tr (frG_tr f1 f2) (frG_gw _ _))
        rw [hw] at hE
        refine ⟨A1, ?_, h⟩
        refine w278_39 hp263 (fun _ => hE1) (fun _ => hE2) q5 q6 q7 q8 ⟨fun c1 => ⟨by (first | omega | assumption | (rw [b1]; exact hoW_lt _)), ⟨fun c4 => ?_, fun c4 => ⟨by (first | omega | assumption | (rw [b1]; exact hoW_lt _)), ?_⟩⟩⟩, fun c1 => ⟨by (first | omega | assumption | (rw [b1]; exact hoW_lt _)), ?_⟩⟩
        all_goals first | exact hE | exact absurd c4 hk | cases c1
  obtain ⟨A1, hE, h⟩ := S39
  refine ⟨A1, ?_, h⟩
  refine w278 hp263  ⟨by (first | omega | assumption), ⟨by (first | omega | assumption), ⟨by (first | omega | assumption), ⟨fun c1 => ?_, fun c1 => ⟨fun c2 => ⟨by (first | omega | assumption), ?_⟩, fun c2 => ?_⟩⟩⟩⟩⟩
  · rw [show tkP (A 264) al = 4294967295 from if_pos (Or.inl (of_decide_eq_true c1))] at hE; exact hE
  · rw [show tkP (A 264) al = hoP (A 264) from if_neg (fun z => z.elim (of_decide_eq_false c1) (fun y => absurd (c2.symm.trans y) (by decide)))] at hE; exact hE
  · rw [show tkP (A 264) al = 4294967295 from if_pos (Or.inr c2)] at hE; exact hE
