/-! guests of the reference -/
theorem w390 {X : gv_X} {d : Nat} {G : gv_Sh} {A : Nat → Nat → Nat} {j : Nat → Nat → Int64} {cc : gv_Rs} {r : gv_O × gv_S} {a : Nat} {b : Nat}  (H : (a < 2147483648) ∧ ((b < 2147483648) ∧ (((b < a) → r = (.inl (some (.int (nI b))), (G, (mI A, j), cc))) ∧ ((a ≤ b) → r = (.inl (some (.int (nI a))), (G, (mI A, j), cc)))))) : Ev X (d + 0) gvm_390 0 (gv_enter [.int (nI a), .int (nI b)] 2) [] (G, (mI A, j), cc) r :=
  (ev_iload_n rfl rfl   (ev_iload_n rfl rfl   (en_ic_gt rfl H.1 H.2.1 (fun c1 => (ev_iload_n rfl rfl   (ev_ireti rfl rfl (H.2.2.1 c1)))) (fun c1 => (ev_iload_n rfl rfl   (ev_goto rfl (ev_ireti rfl rfl (H.2.2.2 c1))))))))
theorem k_min {X : gv_X} {d : Nat} {G : gv_Sh} {A : Nat → Nat → Nat} {j : Nat → Nat → Int64} {cc : gv_Rs} {a : Nat} {b : Nat}  (p0 : a < 2147483648) (p1 : b < 2147483648) : Ev X (d + 0) gvm_390 0 (gv_enter [.int (nI a), .int (nI b)] 2) [] (G, (mI A, j), cc) (.inl (some (.int (nI (min a b)))), (G, (mI A, j), cc)) := by
  refine w390   ⟨by omega, ⟨by omega, ⟨fun c1 => ?_, fun c1 => ?_⟩⟩⟩
  · exact rn (by omega)
  · exact rn (by omega)
theorem w389 {X : gv_X} {d : Nat} {G : gv_Sh} {A : Nat → Nat → Nat} {j : Nat → Nat → Int64} {cc : gv_Rs} {r : gv_O × gv_S} {a : Nat} {b : Nat}  (H : (a < 2147483648) ∧ ((b < 2147483648) ∧ (((a < b) → r = (.inl (some (.int (nI b))), (G, (mI A, j), cc))) ∧ ((b ≤ a) → r = (.inl (some (.int (nI a))), (G, (mI A, j), cc)))))) : Ev X (d + 0) gvm_389 0 (gv_enter [.int (nI a), .int (nI b)] 2) [] (G, (mI A, j), cc) r :=
  (ev_iload_n rfl rfl   (ev_iload_n rfl rfl   (en_ic_lt rfl H.1 H.2.1 (fun c1 => (ev_iload_n rfl rfl   (ev_ireti rfl rfl (H.2.2.1 c1)))) (fun c1 => (ev_iload_n rfl rfl   (ev_goto rfl (ev_ireti rfl rfl (H.2.2.2 c1))))))))
theorem k_max {X : gv_X} {d : Nat} {G : gv_Sh} {A : Nat → Nat → Nat} {j : Nat → Nat → Int64} {cc : gv_Rs} {a : Nat} {b : Nat}  (p0 : a < 2147483648) (p1 : b < 2147483648) : Ev X (d + 0) gvm_389 0 (gv_enter [.int (nI a), .int (nI b)] 2) [] (G, (mI A, j), cc) (.inl (some (.int (nI (max a b)))), (G, (mI A, j), cc)) := by
  refine w389   ⟨by omega, ⟨by omega, ⟨fun c1 => ?_, fun c1 => ?_⟩⟩⟩
  · exact rn (by omega)
  · exact rn (by omega)
theorem w271 {X : gv_X} {d : Nat} {G : gv_Sh} {A : Nat → Nat → Nat} {j : Nat → Nat → Int64} {cc : gv_Rs} {r : gv_O × gv_S} {g : Nat} {mo : Nat} {b : Nat} (hp263 : oX12 G 263) (H : (((102 + (13 * g)) + 1) < 2066) ∧ ((((102 + (13 * g)) + 3) < 2066) ∧ (((((gu (gu A 263 19 (A 264 ((102 + (13 * g)) + 1))) 263 20 mo) 264 ((102 + (13 * g)) + 3)) + b) < 2147483648) ∧ ((((102 + (13 * g)) + 4) < 2066) ∧ (Ev X (d + 2) gvm_271 43 [some (.ref 263), some (.int (nI g)), some (.int (nI mo)), some (.int (nI b)), some (.int (nI 0))] [] (G, (mI (gu (gu (gu (gu A 263 19 (A 264 ((102 + (13 * g)) + 1))) 263 20 mo) 263 21 ((((gu (gu A 263 19 (A 264 ((102 + (13 * g)) + 1))) 263 20 mo) 264 ((102 + (13 * g)) + 3)) + b) % 8)) 263 22 ((gu (gu (gu A 263 19 (A 264 ((102 + (13 * g)) + 1))) 263 20 mo) 263 21 ((((gu (gu A 263 19 (A 264 ((102 + (13 * g)) + 1))) 263 20 mo) 264 ((102 + (13 * g)) + 3)) + b) % 8)) 264 ((102 + (13 * g)) + 4))), j), cc) r))))) : Ev X (d + 2) gvm_271 0 (gv_enter [.ref 263, .int (nI g), .int (nI mo), .int (nI b)] 5) [] (G, (mI A, j), cc) r :=
  (ev_aload_n rfl rfl   (ev_aload_n rfl rfl   (ev_iload_n rfl rfl   (en_iconst rfl rfl   (ev_virt rfl rfl rfl rfl rfl (oX12_k hp263) rfl rfl rfl (r_ofGuest (g := g) (what := 1) (A := A) hp263 H.1 ) (en_putI rfl rfl (oX12_k hp263)   (ev_aload_n rfl rfl   (ev_iload_n rfl rfl   (en_putI rfl rfl (oX12_k hp263)   (ev_aload_n rfl rfl   (ev_aload_n rfl rfl   (ev_iload_n rfl rfl   (en_iconst rfl rfl   (ev_virt rfl rfl rfl rfl rfl (oX12_k hp263) rfl rfl rfl (r_ofGuest (g := g) (what := 3) (A := (gu (gu A 263 19 (A 264 ((102 + (13 * g)) + 1))) 263 20 mo)) hp263 H.2.1 ) (ev_iload_n rfl rfl   (en_iadd rfl   (en_bipush rfl rfl   (en_irem rfl H.2.2.1 (by decide) (by decide)  (en_putI rfl rfl (oX12_k hp263)   (ev_aload_n rfl rfl   (ev_aload_n rfl rfl   (ev_iload_n rfl rfl   (en_iconst rfl rfl   (ev_virt rfl rfl rfl rfl rfl (oX12_k hp263) rfl rfl rfl (r_ofGuest (g := g) (what := 4) (A := (gu (gu (gu A 263 19 (A 264 ((102 + (13 * g)) + 1))) 263 20 mo) 263 21 ((((gu (gu A 263 19 (A 264 ((102 + (13 * g)) + 1))) 263 20 mo) 264 ((102 + (13 * g)) + 3)) + b) % 8))) hp263 H.2.2.2.1 ) (en_putI rfl rfl (oX12_k hp263)   (en_iconst rfl rfl   (ev_istore rfl rfl   H.2.2.2.2)))))))))))))))))))))))))))
theorem w271_43 {X : gv_X} {d : Nat} {G : gv_Sh} {A : Nat → Nat → Nat} {j : Nat → Nat → Int64} {cc : gv_Rs} {r : gv_O × gv_S} {g : Nat} {mo : Nat} {b : Nat} {l4 : Nat} (hp263 : oX12 G 263) (H : (l4 < 2147483648) ∧ (((8 ≤ l4) → r = (.inl none, (G, (mI A, j), cc))) ∧ ((l4 < 8) → ((l4 + b) < 2147483648) ∧ ((((102 + (13 * g)) + (5 + l4)) < 2066) ∧ ((((l4 + b) % 8) < 8) ∧ (Ev X (d + 2) gvm_271 43 [some (.ref 263), some (.int (nI g)), some (.int (nI mo)), some (.int (nI b)), some (.int (nI (l4 + 1)))] [] (G, (mI (gu A 271 ((l4 + b) % 8) (A 264 ((102 + (13 * g)) + (5 + l4)))), j), cc) r)))))) : Ev X (d + 2) gvm_271 43 [some (.ref 263), some (.int (nI g)), some (.int (nI mo)), some (.int (nI b)), some (.int (nI l4))] [] (G, (mI A, j), cc) r :=
  (ev_iload rfl rfl   (en_bipush rfl rfl   (en_ic_ge rfl H.1 (by decide) (fun c1 => (ev_vret rfl (H.2.1 c1))) (fun c1 => (ev_aload_n rfl rfl   (ev_getP rfl rfl (oX12_k hp263) (oX12_17 hp263)   (ev_iload rfl rfl   (ev_iload_n rfl rfl   (en_iadd rfl   (en_bipush rfl rfl   (en_irem rfl (H.2.2 c1).1 (by decide) (by decide)  (ev_aload_n rfl rfl   (ev_iload_n rfl rfl   (en_iconst rfl rfl   (ev_iload rfl rfl   (en_iadd rfl   (ev_virt rfl rfl rfl rfl rfl (oX12_k hp263) rfl rfl rfl (r_ofGuest (g := g) (what := (5 + l4)) (A := A) hp263 (H.2.2 c1).2.1 ) (en_iast rfl (oX12_17c hp263) (by decide) (H.2.2 c1).2.2.1  (en_iinc rfl rfl rfl rfl   (ev_goto rfl (H.2.2 c1).2.2.2))))))))))))))))))))
theorem r_comes {X : gv_X} {d : Nat} {G : gv_Sh} {A : Nat → Nat → Nat} {j : Nat → Nat → Int64} {cc : gv_Rs} {g : Nat} {mo : Nat} {b : Nat} (hp263 : oX12 G 263) (p0 : okW (A 264)) (p1 : g < 2) (p2 : b < 8) : Ev X (d + 2) gvm_271 0 (gv_enter [.ref 263, .int (nI g), .int (nI mo), .int (nI b)] 5) [] (G, (mI A, j), cc) (.inl none, (G, (mI (mWr A (cmM (A 264) g mo b (A 263 23) (A 271))), j), cc)) := by
  have hb := okW_g p0 p1
  have h1 : (gu (gu (gu (gu A 263 19 (A 264 (102 + 13 * g + 1))) 263 20 mo) 263 21 ((A 264 (102 + 13 * g + 3) + b) % 8)) 263 22 (A 264 (102 + 13 * g + 4))) 271 = A 271 := by rw [gu_row (by decide), gu_row (by decide), gu_row (by decide), gu_row (by decide)]
  have h4 : (gu (gu (gu (gu A 263 19 (A 264 (102 + 13 * g + 1))) 263 20 mo) 263 21 ((A 264 (102 + 13 * g + 3) + b) % 8)) 263 22 (A 264 (102 + 13 * g + 4))) 264 = A 264 := by rw [g264, g264, g264, g264]
  have e8 : gw (gu (gu (gu (gu A 263 19 (A 264 (102 + 13 * g + 1))) 263 20 mo) 263 21 ((A 264 (102 + 13 * g + 3) + b) % 8)) 263 22 (A 264 (102 + 13 * g + 4))) 271 (rotC (fun k => A 264 (102 + 13 * g + (5 + k))) b 8 (A 271)) = (mWr A (cmM (A 264) g mo b (A 263 23) (A 271))) := by
    simp only [mW_19, mW_20, mW_21, mW_22, mW_row, mWr_Wr, mRd_Wr]
    rfl
  have L : ∀ k, k ≤ 8 → Ev X (d + 2) gvm_271 43 [some (.ref 263), some (.int (nI g)), some (.int (nI mo)), some (.int (nI b)), some (.int (nI k))] [] (G, (mI (gw (gu (gu (gu (gu A 263 19 (A 264 (102 + 13 * g + 1))) 263 20 mo) 263 21 ((A 264 (102 + 13 * g + 3) + b) % 8)) 263 22 (A 264 (102 + 13 * g + 4))) 271 (rotC (fun k => A 264 (102 + 13 * g + (5 + k))) b k (A 271))), j), cc) (.inl none, (G, (mI (mWr A (cmM (A 264) g mo b (A 263 23) (A 271))), j), cc)) := by
    refine up_ind 8 ?_ ?_
    · refine w271_43 hp263  ⟨by omega, ⟨fun c1 => ?_, fun c1 => ⟨by omega, ⟨by omega, ⟨by omega, ?_⟩⟩⟩⟩⟩
      · rw [e8]
      · omega
    · intro k hk ih
      refine w271_43 hp263  ⟨by omega, ⟨fun c1 => ?_, fun c1 => ⟨by omega, ⟨by omega, ⟨by omega, ?_⟩⟩⟩⟩⟩
      · omega
      · have e : gw (gu (gu (gu (gu A 263 19 (A 264 (102 + 13 * g + 1))) 263 20 mo) 263 21 ((A 264 (102 + 13 * g + 3) + b) % 8)) 263 22 (A 264 (102 + 13 * g + 4))) 271 (rotC (fun k => A 264 (102 + 13 * g + (5 + k))) b k (A 271)) 264 = A 264 := by rw [gw_row (by decide), h4]
        rw [e, gu_gw, gw_gw, gw_at]
        rw [← rotC_s p2 hk] at ih
        exact ih
  have h0 := L 0 (by omega)
  rw [rotC_0, ← h1, gw_self] at h0
  refine w271 hp263  ⟨by (first | omega | (simp only [g264]; omega)), ⟨by (first | omega | (simp only [g264]; omega)), ⟨by (first | omega | (simp only [g264]; omega)), ⟨by (first | omega | (simp only [g264]; omega)), ?_⟩⟩⟩⟩
  simp only [g264]
  exact h0
theorem w272 {X : gv_X} {d : Nat} {G : gv_Sh} {A : Nat → Nat → Nat} {j : Nat → Nat → Int64} {cc : gv_Rs} {r : gv_O × gv_S} {g : Nat} {b : Nat} (hp263 : oX12 G 263) (H : (((102 + (13 * g)) + 1) < 2066) ∧ ((b ≤ 4294967296) ∧ (((((((A 263 21) + 4294967296 - b) % 4294967296) + 8) % 4294967296) < 2147483648) ∧ ((((102 + (13 * g)) + 3) < 2066) ∧ (Ev X (d + 2) gvm_272 38 [some (.ref 263), some (.int (nI g)), some (.int (nI b)), some (.int (nI 0))] [] (G, (mI (gu (gu A 264 ((102 + (13 * g)) + 1) (A 263 19)) 264 ((102 + (13 * g)) + 3) ((((((A 263 21) + 4294967296 - b) % 4294967296) + 8) % 4294967296) % 8)), j), cc) r))))) : Ev X (d + 2) gvm_272 0 (gv_enter [.ref 263, .int (nI g), .int (nI b)] 4) [] (G, (mI A, j), cc) r :=
  (ev_aload_n rfl rfl   (ev_getP rfl rfl (oX12_k hp263) (oX12_1 hp263)   (ev_iload_n rfl rfl   (en_iconst rfl rfl   (ev_stat rfl rfl rfl rfl rfl rfl rfl rfl (r_guestAt (g := g) (what := 1) (A := A)  ) (ev_aload_n rfl rfl   (en_getI rfl rfl (oX12_k hp263) rfl   (en_iast rfl (oX12_1c hp263) (by decide) H.1  (ev_aload_n rfl rfl   (ev_getP rfl rfl (oX12_k hp263) (oX12_1 hp263)   (ev_iload_n rfl rfl   (en_iconst rfl rfl   (ev_stat rfl rfl rfl rfl rfl rfl rfl rfl (r_guestAt (g := g) (what := 3) (A := (gu A 264 ((102 + (13 * g)) + 1) (A 263 19)))  ) (ev_aload_n rfl rfl   (en_getI rfl rfl (oX12_k hp263) (gu_q (by omega) rfl)   (ev_iload_n rfl rfl   (en_isubw rfl H.2.1  (en_bipush rfl rfl   (en_iaddw rfl   (en_bipush rfl rfl   (en_irem rfl H.2.2.1 (by decide) (by decide)  (en_iast rfl (oX12_1c hp263) (by decide) H.2.2.2.1  (en_iconst rfl rfl   (ev_istore_n rfl rfl   H.2.2.2.2))))))))))))))))))))))))
theorem w272_38 {X : gv_X} {d : Nat} {G : gv_Sh} {A : Nat → Nat → Nat} {j : Nat → Nat → Int64} {cc : gv_Rs} {r : gv_O × gv_S} {g : Nat} {b : Nat} {l3 : Nat} (hp263 : oX12 G 263) (H : (l3 < 2147483648) ∧ (((8 ≤ l3) → (((102 + (13 * g)) + 0) < 2066) ∧ (((A 263 23) < 4294967296) ∧ ((((A 263 23) = 0) → (((A 264 ((102 + (13 * g)) + 0)) + 1) < 2147483648) ∧ ((((102 + (13 * g)) + 0) < 2066) ∧ (r = (.inl none, (G, (mI (gu A 264 ((102 + (13 * g)) + 0) (min 12 ((A 264 ((102 + (13 * g)) + 0)) + 1))), j), cc))))) ∧ ((¬ (A 263 23) = 0) → (((A 264 ((102 + (13 * g)) + 0)) + 2) < 2147483648) ∧ ((((102 + (13 * g)) + 0) < 2066) ∧ (r = (.inl none, (G, (mI (gu A 264 ((102 + (13 * g)) + 0) (min 12 ((A 264 ((102 + (13 * g)) + 0)) + 2))), j), cc)))))))) ∧ ((l3 < 8) → ((l3 + b) < 2147483648) ∧ ((((l3 + b) % 8) < 8) ∧ ((((102 + (13 * g)) + (5 + l3)) < 2066) ∧ (Ev X (d + 2) gvm_272 38 [some (.ref 263), some (.int (nI g)), some (.int (nI b)), some (.int (nI (l3 + 1)))] [] (G, (mI (gu A 264 ((102 + (13 * g)) + (5 + l3)) (A 271 ((l3 + b) % 8))), j), cc) r)))))) : Ev X (d + 2) gvm_272 38 [some (.ref 263), some (.int (nI g)), some (.int (nI b)), some (.int (nI l3))] [] (G, (mI A, j), cc) r :=
  (ev_iload_n rfl rfl   (en_bipush rfl rfl   (en_ic_ge rfl H.1 (by decide) (fun c1 => (ev_aload_n rfl rfl   (ev_getP rfl rfl (oX12_k hp263) (oX12_1 hp263)   (ev_iload_n rfl rfl   (en_iconst rfl rfl   (ev_stat rfl rfl rfl rfl rfl rfl rfl rfl (r_guestAt (g := g) (what := 0) (A := A)  ) (en_bipush rfl rfl   (ev_aload_n rfl rfl   (ev_iload_n rfl rfl   (en_iconst rfl rfl   (ev_virt rfl rfl rfl rfl rfl (oX12_k hp263) rfl rfl rfl (r_ofGuest (g := g) (what := 0) (A := A) hp263 (H.2.1 c1).1 ) (ev_aload_n rfl rfl   (en_getZ rfl rfl (oX12_k hp263) rfl   (en_if_eq rfl (H.2.1 c1).2.1 (fun c2 => (en_iconst rfl rfl   (en_iadd rfl   (ev_stat rfl rfl rfl rfl rfl rfl rfl rfl (k_min (a := 12) (b := ((A 264 ((102 + (13 * g)) + 0)) + 1)) (A := A) (by decide) ((H.2.1 c1).2.2.1 c2).1 ) (en_iast rfl (oX12_1c hp263) (by decide) ((H.2.1 c1).2.2.1 c2).2.1  (ev_vret rfl ((H.2.1 c1).2.2.1 c2).2.2)))))) (fun c2 => (en_iconst rfl rfl   (ev_goto rfl (en_iadd rfl   (ev_stat rfl rfl rfl rfl rfl rfl rfl rfl (k_min (a := 12) (b := ((A 264 ((102 + (13 * g)) + 0)) + 2)) (A := A) (by decide) ((H.2.1 c1).2.2.2 c2).1 ) (en_iast rfl (oX12_1c hp263) (by decide) ((H.2.1 c1).2.2.2 c2).2.1  (ev_vret rfl ((H.2.1 c1).2.2.2 c2).2.2))))))))))))))))))))) (fun c1 => (ev_aload_n rfl rfl   (ev_getP rfl rfl (oX12_k hp263) (oX12_1 hp263)   (ev_iload_n rfl rfl   (en_iconst rfl rfl   (ev_iload_n rfl rfl   (en_iadd rfl   (ev_stat rfl rfl rfl rfl rfl rfl rfl rfl (r_guestAt (g := g) (what := (5 + l3)) (A := A)  ) (ev_aload_n rfl rfl   (ev_getP rfl rfl (oX12_k hp263) (oX12_17 hp263)   (ev_iload_n rfl rfl   (ev_iload_n rfl rfl   (en_iadd rfl   (en_bipush rfl rfl   (en_irem rfl (H.2.2 c1).1 (by decide) (by decide)  (en_iald rfl (oX12_17c hp263) (by decide) (H.2.2 c1).2.1 rfl (en_iast rfl (oX12_1c hp263) (by decide) (H.2.2 c1).2.2.1  (en_iinc rfl rfl rfl rfl   (ev_goto rfl (H.2.2 c1).2.2.2))))))))))))))))))))))
theorem r_goes {X : gv_X} {d : Nat} {G : gv_Sh} {A : Nat → Nat → Nat} {j : Nat → Nat → Int64} {cc : gv_Rs} {g : Nat} {b : Nat} (hp263 : oX12 G 263) (p0 : okW (A 264)) (p1 : g < 2) (p2 : b < 8) (p3 : okM (mRd A)) : Ev X (d + 2) gvm_272 0 (gv_enter [.ref 263, .int (nI g), .int (nI b)] 4) [] (G, (mI A, j), cc) (.inl none, (G, (mI (gw A 264 (goR (A 264) (mRd A) g b)), j), cc)) := by
  have hb := okW_g p0 p1
  obtain ⟨m1, m2, m3, m4, m5, m6⟩ := p3
  simp only [mRd] at m1 m2 m3 m4 m5 m6
  have hB : ∀ i, (gu (gu A 264 (102 + 13 * g + 1) (A 263 19)) 264 (102 + 13 * g + 3) ((A 263 21 + 8 - b) % 8)) 264 i = if i = 102 + 13 * g + 3 then (A 263 21 + 8 - b) % 8 else if i = 102 + 13 * g + 1 then A 263 19 else A 264 i := by
    intro i
    rw [gu_at, gu_at]
  have L : ∀ k, k ≤ 8 → Ev X (d + 2) gvm_272 38 [some (.ref 263), some (.int (nI g)), some (.int (nI b)), some (.int (nI k))] [] (G, (mI (gw A 264 (fun i => if 102 + 13 * g + 5 ≤ i ∧ i < 102 + 13 * g + 5 + k then A 271 ((i - (102 + 13 * g + 5) + b) % 8) else (gu (gu A 264 (102 + 13 * g + 1) (A 263 19)) 264 (102 + 13 * g + 3) ((A 263 21 + 8 - b) % 8)) 264 i)), j), cc) (.inl none, (G, (mI (gw A 264 (goR (A 264) (mRd A) g b)), j), cc)) := by
    have fin : ∀ v, v = min 12 (A 264 (102 + 13 * g + 0) + (if A 263 23 = 0 then 1 else 2)) → gu (gw A 264 (fun i => if 102 + 13 * g + 5 ≤ i ∧ i < 102 + 13 * g + 5 + 8 then A 271 ((i - (102 + 13 * g + 5) + b) % 8) else (gu (gu A 264 (102 + 13 * g + 1) (A 263 19)) 264 (102 + 13 * g + 3) ((A 263 21 + 8 - b) % 8)) 264 i)) 264 (102 + 13 * g + 0) v = gw A 264 (goR (A 264) (mRd A) g b) := by
      intro v hv
      rw [gu_gw, gw_gw, gw_at]
      congr 1
      funext i
      show (if i = 102 + 13 * g + 0 then v else (if 102 + 13 * g + 5 ≤ i ∧ i < 102 + 13 * g + 5 + 8 then A 271 ((i - (102 + 13 * g + 5) + b) % 8) else (gu (gu A 264 (102 + 13 * g + 1) (A 263 19)) 264 (102 + 13 * g + 3) ((A 263 21 + 8 - b) % 8)) 264 i)) = _
      rw [hB]
      unfold goR
      by_cases q0 : i = 102 + 13 * g + 0
      · rw [if_pos q0, if_pos q0]; exact hv
      rw [if_neg q0, if_neg q0]
      by_cases q1 : i = 102 + 13 * g + 1
      · rw [if_neg (by omega), if_neg (by omega), if_pos q1, if_pos q1]; rfl
      by_cases q3 : i = 102 + 13 * g + 3
      · exact ((if_neg (by omega)).trans (if_pos q3)).trans ((if_neg q1).trans (if_pos q3)).symm
      by_cases q5 : 102 + 13 * g + 5 ≤ i ∧ i < 102 + 13 * g + 5 + 8
      · exact (if_pos q5).trans ((if_neg q1).trans ((if_neg q3).trans (if_pos ⟨q5.1, by omega⟩))).symm
      · exact ((if_neg q5).trans ((if_neg q3).trans (if_neg q1))).trans ((if_neg q1).trans ((if_neg q3).trans (if_neg (by omega)))).symm
    have r8 : ∀ k, k ≤ 8 → (gw A 264 (fun i => if 102 + 13 * g + 5 ≤ i ∧ i < 102 + 13 * g + 5 + k then A 271 ((i - (102 + 13 * g + 5) + b) % 8) else (gu (gu A 264 (102 + 13 * g + 1) (A 263 19)) 264 (102 + 13 * g + 3) ((A 263 21 + 8 - b) % 8)) 264 i)) 264 (102 + 13 * g + 0) = A 264 (102 + 13 * g + 0) := by
      intro k hk
      rw [gw_at, if_neg (by omega), hB, if_neg (by omega), if_neg (by omega)]
    have r23 : ∀ k, (gw A 264 (fun i => if 102 + 13 * g + 5 ≤ i ∧ i < 102 + 13 * g + 5 + k then A 271 ((i - (102 + 13 * g + 5) + b) % 8) else (gu (gu A 264 (102 + 13 * g + 1) (A 263 19)) 264 (102 + 13 * g + 3) ((A 263 21 + 8 - b) % 8)) 264 i)) 263 = A 263 := fun k => gw_row (by decide)
    have r71 : ∀ k, (gw A 264 (fun i => if 102 + 13 * g + 5 ≤ i ∧ i < 102 + 13 * g + 5 + k then A 271 ((i - (102 + 13 * g + 5) + b) % 8) else (gu (gu A 264 (102 + 13 * g + 1) (A 263 19)) 264 (102 + 13 * g + 3) ((A 263 21 + 8 - b) % 8)) 264 i)) 271 = A 271 := fun k => gw_row (by decide)
    refine up_ind 8 ?_ ?_
    · refine w272_38 hp263  ⟨by (first | omega | (simp only [r23, r8 8 (by omega)]; omega)), ⟨fun c1 => ⟨by (first | omega | (simp only [r23, r8 8 (by omega)]; omega)), ⟨by (first | omega | (simp only [r23, r8 8 (by omega)]; omega)), ⟨fun c2 => ⟨by (first | omega | (simp only [r23, r8 8 (by omega)]; omega)), ⟨by (first | omega | (simp only [r23, r8 8 (by omega)]; omega)), ?_⟩⟩, fun c2 => ⟨by (first | omega | (simp only [r23, r8 8 (by omega)]; omega)), ⟨by (first | omega | (simp only [r23, r8 8 (by omega)]; omega)), ?_⟩⟩⟩⟩⟩, fun c1 => ⟨by (first | omega | (simp only [r23, r8 8 (by omega)]; omega)), ⟨by (first | omega | (simp only [r23, r8 8 (by omega)]; omega)), ⟨by (first | omega | (simp only [r23, r8 8 (by omega)]; omega)), ?_⟩⟩⟩⟩⟩
      · rw [r23] at c2
        rw [r8 8 (by omega), fin _ (by rw [if_pos c2])]
      · rw [r23] at c2
        rw [r8 8 (by omega), fin _ (by rw [if_neg c2])]
      · omega
    · intro k hk ih
      refine w272_38 hp263  ⟨by (first | omega | (simp only [r23, r8 k (by omega)]; omega)), ⟨fun c1 => ⟨by (first | omega | (simp only [r23, r8 k (by omega)]; omega)), ⟨by (first | omega | (simp only [r23, r8 k (by omega)]; omega)), ⟨fun c2 => ⟨by (first | omega | (simp only [r23, r8 k (by omega)]; omega)), ⟨by (first | omega | (simp only [r23, r8 k (by omega)]; omega)), ?_⟩⟩, fun c2 => ⟨by (first | omega | (simp only [r23, r8 k (by omega)]; omega)), ⟨by (first | omega | (simp only [r23, r8 k (by omega)]; omega)), ?_⟩⟩⟩⟩⟩, fun c1 => ⟨by (first | omega | (simp only [r23, r8 k (by omega)]; omega)), ⟨by (first | omega | (simp only [r23, r8 k (by omega)]; omega)), ⟨by (first | omega | (simp only [r23, r8 k (by omega)]; omega)), ?_⟩⟩⟩⟩⟩
      · omega
      · omega
      · rw [r71, gu_gw, gw_gw, gw_at]
        have e : (fun i => if i = 102 + 13 * g + (5 + k) then A 271 ((k + b) % 8) else (if 102 + 13 * g + 5 ≤ i ∧ i < 102 + 13 * g + 5 + k then A 271 ((i - (102 + 13 * g + 5) + b) % 8) else (gu (gu A 264 (102 + 13 * g + 1) (A 263 19)) 264 (102 + 13 * g + 3) ((A 263 21 + 8 - b) % 8)) 264 i)) = (fun i => if 102 + 13 * g + 5 ≤ i ∧ i < 102 + 13 * g + 5 + (k + 1) then A 271 ((i - (102 + 13 * g + 5) + b) % 8) else (gu (gu A 264 (102 + 13 * g + 1) (A 263 19)) 264 (102 + 13 * g + 3) ((A 263 21 + 8 - b) % 8)) 264 i) := by
          funext i
          by_cases q : i = 102 + 13 * g + (5 + k)
          · rw [if_pos q, if_pos ⟨by omega, by omega⟩, show i - (102 + 13 * g + 5) = k by omega]
          · rw [if_neg q]
            by_cases q2 : 102 + 13 * g + 5 ≤ i ∧ i < 102 + 13 * g + 5 + k
            · rw [if_pos q2, if_pos ⟨q2.1, by omega⟩]
            · rw [if_neg q2, if_neg (by omega)]
        rw [← e] at ih
        exact ih
  have h0 := L 0 (by omega)
  have e0 : (gw A 264 (fun i => if 102 + 13 * g + 5 ≤ i ∧ i < 102 + 13 * g + 5 + 0 then A 271 ((i - (102 + 13 * g + 5) + b) % 8) else (gu (gu A 264 (102 + 13 * g + 1) (A 263 19)) 264 (102 + 13 * g + 3) ((A 263 21 + 8 - b) % 8)) 264 i)) = (gu (gu A 264 (102 + 13 * g + 1) (A 263 19)) 264 (102 + 13 * g + 3) ((A 263 21 + 8 - b) % 8)) := by
    rw [show (fun i => if 102 + 13 * g + 5 ≤ i ∧ i < 102 + 13 * g + 5 + 0 then A 271 ((i - (102 + 13 * g + 5) + b) % 8) else (gu (gu A 264 (102 + 13 * g + 1) (A 263 19)) 264 (102 + 13 * g + 3) ((A 263 21 + 8 - b) % 8)) 264 i) = (gu (gu A 264 (102 + 13 * g + 1) (A 263 19)) 264 (102 + 13 * g + 3) ((A 263 21 + 8 - b) % 8)) 264 from funext (fun i => if_neg (by omega))]
    rw [gu_gw, gu_gw, gw_gw, gw_at]
  rw [e0] at h0
  refine w272 hp263  ⟨by omega, ⟨by omega, ⟨by omega, ⟨by omega, ?_⟩⟩⟩⟩
  rw [show (((A 263 21 + 4294967296 - b) % 4294967296 + 8) % 4294967296) % 8 = (A 263 21 + 8 - b) % 8 by omega]
  exact h0
