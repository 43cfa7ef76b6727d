/-! ticks of the reference -/
theorem nn_shand {u : Nat} (hu : u < 4294967296) : (nI u >>> (nI 16 &&& 31)) &&& nI 32767 = nI (u / 65536 % 32768) := by
  obtain ⟨b, hb, e⟩ := nn_of (nI u >>> (nI 16 &&& 31))
  have h := congrArg Int32.toInt e
  rw [pk_shr _ _ 16 (nn_s (by omega)), nn_i, nn_i, Int.shiftRight_eq_div_pow] at h
  rw [e, nn_and, show (32767 : Nat) = 2 ^ 15 - 1 from rfl, Nat.and_two_pow_sub_one_eq_mod]
  have : b % 32768 = u / 65536 % 32768 := by omega
  rw [← this]
section EVS
variable {X : gv_X} {d : Nat} {M : gv_Mt} {pc : Nat} {lo : gv_L} {st : List Value} {S : gv_S} {r : gv_O × gv_S} {a b : Nat} {z : Int32} {u : Nat}
theorem en_shand (h : M.2.2.2.2.2 pc = (.iand, a, b, z)) (hu : u < 4294967296) (k : Ev X d M (pc + 1) lo (.int (nI (u / 65536 % 32768)) :: st) S r) : Ev X d M pc lo (.int (nI 32767) :: .int (nI u >>> (nI 16 &&& 31)) :: st) S r := ev_iand h (by rw [nn_shand hu]; exact k)
end EVS
theorem w276 {X : gv_X} {d : Nat} {G : gv_Sh} {A : Nat → Nat → Nat} {j : Nat → Nat → Int64} {cc : gv_Rs} {r : gv_O × gv_S} {R : Nat → Nat} (hp263 : oX12 G 263) (hR : A 264 = R) (H : Ev X (d + 2) gvm_276 4 [some (.ref 263), some (.int (nI 1)), some (.int (nI 0))] [] (G, (mI A, j), cc) r) : Ev X (d + 2) gvm_276 0 (gv_enter [.ref 263] 3) [] (G, (mI A, j), cc) r :=
  by
  subst hR
  exact (en_iconst rfl rfl   (ev_istore_n rfl rfl   (en_iconst rfl rfl   (ev_istore_n rfl rfl   H))))
theorem w276_4 {X : gv_X} {d : Nat} {G : gv_Sh} {A : Nat → Nat → Nat} {j : Nat → Nat → Int64} {cc : gv_Rs} {r : gv_O × gv_S} {R : Nat → Nat} {l1 : Nat} {l2 : Nat} (hp263 : oX12 G 263) (hR : A 264 = R) (H : (l2 < 2147483648) ∧ (((13 ≤ l2) → ((nI l1) = 0 ∨ (nI l1) = 1) ∧ r = (.inl (some (.int (nI l1))), (G, (mI A, j), cc))) ∧ ((l2 < 13) → (l1 < 4294967296) ∧ (((l1 = 0) → Ev X (d + 2) gvm_276 4 [some (.ref 263), some (.int (nI 0)), some (.int (nI (l2 + 1)))] [] (G, (mI A, j), cc) r) ∧ ((¬ l1 = 0) → (l2 < 4294967296) ∧ (((l2 = 4) → Ev X (d + 2) gvm_276 4 [some (.ref 263), some (.int (nI 1)), some (.int (nI (l2 + 1)))] [] (G, (mI A, j), cc) r) ∧ ((¬ l2 = 4) → (((102 + (13 * 0)) + l2) < 2066) ∧ ((((102 + (13 * 1)) + l2) < 2066) ∧ (((R ((102 + (13 * 0)) + l2)) < 4294967296) ∧ (((R ((102 + (13 * 1)) + l2)) < 4294967296) ∧ (((¬ (R ((102 + (13 * 0)) + l2)) = (R ((102 + (13 * 1)) + l2))) → Ev X (d + 2) gvm_276 4 [some (.ref 263), some (.int (nI 0)), some (.int (nI (l2 + 1)))] [] (G, (mI A, j), cc) r) ∧ (((R ((102 + (13 * 0)) + l2)) = (R ((102 + (13 * 1)) + l2))) → Ev X (d + 2) gvm_276 4 [some (.ref 263), some (.int (nI 1)), some (.int (nI (l2 + 1)))] [] (G, (mI A, j), cc) r)))))))))))) : Ev X (d + 2) gvm_276 4 [some (.ref 263), some (.int (nI l1)), some (.int (nI l2))] [] (G, (mI A, j), cc) r :=
  by
  subst hR
  exact (ev_iload_n rfl rfl   (en_bipush rfl rfl   (en_ic_ge rfl H.1 (by decide) (fun c1 => (ev_iload_n rfl rfl   (ev_iretz rfl rfl (H.2.1 c1).1 (H.2.1 c1).2))) (fun c1 => (ev_iload_n rfl rfl   (en_if_eq rfl (H.2.2 c1).1 (fun c2 => (en_iconst rfl rfl   (ev_istore_n rfl rfl   (en_iinc rfl rfl rfl rfl   (ev_goto rfl ((H.2.2 c1).2.1 c2)))))) (fun c2 => (ev_iload_n rfl rfl   (en_iconst rfl rfl   (en_ic_eq rfl ((H.2.2 c1).2.2 c2).1 (by decide) (fun c3 => (en_iconst rfl rfl   (ev_goto rfl (ev_istore_n rfl rfl   (en_iinc rfl rfl rfl rfl   (ev_goto rfl (((H.2.2 c1).2.2 c2).2.1 c3))))))) (fun c3 => (ev_aload_n rfl rfl   (en_iconst rfl rfl   (ev_iload_n rfl rfl   (ev_virt rfl rfl rfl rfl rfl (oX12_k hp263) rfl rfl rfl (r_ofGuest (g := 0) (what := l2) (A := A) hp263 (((H.2.2 c1).2.2 c2).2.2 c3).1 ) (ev_aload_n rfl rfl   (en_iconst rfl rfl   (ev_iload_n rfl rfl   (ev_virt rfl rfl rfl rfl rfl (oX12_k hp263) rfl rfl rfl (r_ofGuest (g := 1) (what := l2) (A := A) hp263 (((H.2.2 c1).2.2 c2).2.2 c3).2.1 ) (en_ic_ne rfl (((H.2.2 c1).2.2 c2).2.2 c3).2.2.1 (((H.2.2 c1).2.2 c2).2.2 c3).2.2.2.1 (fun c4 => (en_iconst rfl rfl   (ev_istore_n rfl rfl   (en_iinc rfl rfl rfl rfl   (ev_goto rfl ((((H.2.2 c1).2.2 c2).2.2 c3).2.2.2.2.1 c4)))))) (fun c4 => (en_iconst rfl rfl   (ev_goto rfl (ev_istore_n rfl rfl   (en_iinc rfl rfl rfl rfl   (ev_goto rfl ((((H.2.2 c1).2.2 c2).2.2 c3).2.2.2.2.2 c4)))))))))))))))))))))))))))
theorem r_areAlike {X : gv_X} {d : Nat} {G : gv_Sh} {A : Nat → Nat → Nat} {j : Nat → Nat → Int64} {cc : gv_Rs}  (hp263 : oX12 G 263) (p0 : okW (A 264)) : Ev X (d + 2) gvm_276 0 (gv_enter [.ref 263] 3) [] (G, (mI A, j), cc) (.inl (some (.int (zo (alk (A 264))))), (G, (mI A, j), cc)) := by
  have hT : ∀ y : Bool, y.toNat < 4294967296 := fun y => by cases y <;> decide
  have hZ : ∀ y : Bool, nI y.toNat = 0 ∨ nI y.toNat = 1 := fun y => by cases y; exact Or.inl rfl; exact Or.inr rfl
  have L : ∀ k, k ≤ 13 → Ev X (d + 2) gvm_276 4 [some (.ref 263), some (.int (nI (alN (A 264) k).toNat)), some (.int (nI k))] [] (G, (mI A, j), cc) (.inl (some (.int (zo (alk (A 264))))), (G, (mI A, j), cc)) := by
    refine up_ind 13 ?_ ?_
    · refine w276_4 hp263 rfl  ⟨by (first | omega | exact hT _ | exact hZ _), ⟨fun c1 => ⟨by (first | omega | exact hT _ | exact hZ _), ?_⟩, fun c1 => ⟨by (first | omega | exact hT _ | exact hZ _), ⟨fun c2 => ?_, fun c2 => ⟨by (first | omega | exact hT _ | exact hZ _), ⟨fun c3 => ?_, fun c3 => ⟨by (first | omega | exact hT _ | exact hZ _), ⟨by (first | omega | exact hT _ | exact hZ _), ⟨by (first | omega | exact hT _ | exact hZ _), ⟨by (first | omega | exact hT _ | exact hZ _), ⟨fun c4 => ?_, fun c4 => ?_⟩⟩⟩⟩⟩⟩⟩⟩⟩⟩⟩
      · rw [zo_n]; rfl
      all_goals omega
    · intro k hk ih
      have a0 := okW_g p0 (g := 0) (by omega)
      have a1 := okW_g p0 (g := 1) (by omega)
      have b0 : A 264 (102 + 13 * 0 + k) < 4294967296 := by
        rcases (by omega : k = 0 ∨ k = 1 ∨ k = 2 ∨ k = 3 ∨ k = 4 ∨ 5 ≤ k) with rfl | rfl | rfl | rfl | rfl | h
        · omega
        · omega
        · omega
        · omega
        · omega
        · have := okW_gc p0 (g := 0) (k := k - 5) (by omega) (by omega)
          rw [show 5 + (k - 5) = k by omega] at this; omega
      have b1 : A 264 (102 + 13 * 1 + k) < 4294967296 := by
        rcases (by omega : k = 0 ∨ k = 1 ∨ k = 2 ∨ k = 3 ∨ k = 4 ∨ 5 ≤ k) with rfl | rfl | rfl | rfl | rfl | h
        · omega
        · omega
        · omega
        · omega
        · omega
        · have := okW_gc p0 (g := 1) (k := k - 5) (by omega) (by omega)
          rw [show 5 + (k - 5) = k by omega] at this; omega
      have es : alN (A 264) (k + 1) = (alN (A 264) k && (decide (k = 4) || decide (A 264 (102 + 13 * 0 + k) = A 264 (102 + 13 * 1 + k)))) := rfl
      cases hy : alN (A 264) k with
      | false =>
        rw [hy, Bool.false_and] at es
        rw [es] at ih
        refine w276_4 hp263 rfl  ⟨by (first | omega | exact hT _ | exact hZ _ | decide), ⟨fun c1 => ⟨by (first | omega | exact hT _ | exact hZ _ | decide), ?_⟩, fun c1 => ⟨by (first | omega | exact hT _ | exact hZ _ | decide), ⟨fun c2 => ?_, fun c2 => ⟨by (first | omega | exact hT _ | exact hZ _ | decide), ⟨fun c3 => ?_, fun c3 => ⟨by (first | omega | exact hT _ | exact hZ _ | decide), ⟨by (first | omega | exact hT _ | exact hZ _ | decide), ⟨by (first | omega | exact hT _ | exact hZ _ | decide), ⟨by (first | omega | exact hT _ | exact hZ _ | decide), ⟨fun c4 => ?_, fun c4 => ?_⟩⟩⟩⟩⟩⟩⟩⟩⟩⟩⟩
        all_goals first | omega | exact ih | exact absurd rfl c2
      | true =>
        rw [hy, Bool.true_and] at es
        refine w276_4 hp263 rfl  ⟨by (first | omega | exact hT _ | exact hZ _ | decide), ⟨fun c1 => ⟨by (first | omega | exact hT _ | exact hZ _ | decide), ?_⟩, fun c1 => ⟨by (first | omega | exact hT _ | exact hZ _ | decide), ⟨fun c2 => ?_, fun c2 => ⟨by (first | omega | exact hT _ | exact hZ _ | decide), ⟨fun c3 => ?_, fun c3 => ⟨by (first | omega | exact hT _ | exact hZ _ | decide), ⟨by (first | omega | exact hT _ | exact hZ _ | decide), ⟨by (first | omega | exact hT _ | exact hZ _ | decide), ⟨by (first | omega | exact hT _ | exact hZ _ | decide), ⟨fun c4 => ?_, fun c4 => ?_⟩⟩⟩⟩⟩⟩⟩⟩⟩⟩⟩
        · omega
        · exact absurd c2 (by decide)
        · rw [es, decide_eq_true c3] at ih; exact ih
        · rw [es, decide_eq_false c3, decide_eq_false c4] at ih; exact ih
        · rw [es, decide_eq_true c4, Bool.or_true] at ih; exact ih
  exact w276 hp263 rfl (L 0 (by omega))
theorem w277 {X : gv_X} {d : Nat} {G : gv_Sh} {A : Nat → Nat → Nat} {j : Nat → Nat → Int64} {cc : gv_Rs} {r : gv_O × gv_S} {p : Nat} {what : Nat} {pc : Nat} {R : Nat → Nat} (hp263 : oX12 G 263) (hR : A 264 = R) (H : Ev X (d + 1) gvm_277 5 [some (.ref 263), some (.int (nI p)), some (.int (nI what)), some (.int (nI pc)), some (.int (nI 239))] [] (G, (mI A, j), cc) r) : Ev X (d + 1) gvm_277 0 (gv_enter [.ref 263, .int (nI p), .int (nI what), .int (nI pc)] 5) [] (G, (mI A, j), cc) r :=
  by
  subst hR
  exact (en_sipush rfl rfl   (ev_istore rfl rfl   H))
theorem w277_5 {X : gv_X} {d : Nat} {G : gv_Sh} {A : Nat → Nat → Nat} {j : Nat → Nat → Int64} {cc : gv_Rs} {r : gv_O × gv_S} {p : Nat} {what : Nat} {pc : Nat} {R : Nat → Nat} {l4 : Nat} (hp263 : oX12 G 263) (hR : A 264 = R) (H : (l4 < 2147483648) ∧ (((l4 < 4) → (((R 10) + 1) < 2147483648) ∧ (r = (.inl none, (G, (mI (gu (gu (gu (gu (gu A 264 128 (R 8)) 264 129 p) 264 130 what) 264 131 pc) 264 10 (min 60 ((R 10) + 1))), j), cc)))) ∧ ((4 ≤ l4) → (4 ≤ (128 + l4)) ∧ ((((128 + l4) - 4) < 2066) ∧ (((128 + l4) < 2066) ∧ ((1 ≤ l4) ∧ (Ev X (d + 1) gvm_277 5 [some (.ref 263), some (.int (nI p)), some (.int (nI what)), some (.int (nI pc)), some (.int (nI (l4 - 1)))] [] (G, (mI (gu A 264 (128 + l4) (R ((128 + l4) - 4))), j), cc) r))))))) : Ev X (d + 1) gvm_277 5 [some (.ref 263), some (.int (nI p)), some (.int (nI what)), some (.int (nI pc)), some (.int (nI l4))] [] (G, (mI A, j), cc) r :=
  by
  subst hR
  exact (ev_iload rfl rfl   (en_iconst rfl rfl   (en_ic_lt rfl H.1 (by decide) (fun c1 => (ev_aload_n rfl rfl   (ev_getP rfl rfl (oX12_k hp263) (oX12_1 hp263)   (en_sipush rfl rfl   (ev_aload_n rfl rfl   (ev_getP rfl rfl (oX12_k hp263) (oX12_1 hp263)   (en_bipush rfl rfl   (en_iald rfl (oX12_1c hp263) (by decide) (by decide) rfl (en_iast rfl (oX12_1c hp263) (by decide) (by decide)  (ev_aload_n rfl rfl   (ev_getP rfl rfl (oX12_k hp263) (oX12_1 hp263)   (en_sipush rfl rfl   (ev_iload_n rfl rfl   (en_iast rfl (oX12_1c hp263) (by decide) (by decide)  (ev_aload_n rfl rfl   (ev_getP rfl rfl (oX12_k hp263) (oX12_1 hp263)   (en_sipush rfl rfl   (ev_iload_n rfl rfl   (en_iast rfl (oX12_1c hp263) (by decide) (by decide)  (ev_aload_n rfl rfl   (ev_getP rfl rfl (oX12_k hp263) (oX12_1 hp263)   (en_sipush rfl rfl   (ev_iload_n rfl rfl   (en_iast rfl (oX12_1c hp263) (by decide) (by decide)  (ev_aload_n rfl rfl   (ev_getP rfl rfl (oX12_k hp263) (oX12_1 hp263)   (en_bipush rfl rfl   (en_bipush rfl rfl   (ev_aload_n rfl rfl   (ev_getP rfl rfl (oX12_k hp263) (oX12_1 hp263)   (en_bipush rfl rfl   (en_iald rfl (oX12_1c hp263) (by decide) (by decide) (gu_k (by decide) (gu_k (by decide) (gu_k (by decide) (gu_k (by decide) rfl)))) (en_iconst rfl rfl   (en_iadd rfl   (ev_stat rfl rfl rfl rfl rfl rfl rfl rfl (k_min (a := 60) (b := ((A 264 10) + 1)) (A := (gu (gu (gu (gu A 264 128 (A 264 8)) 264 129 p) 264 130 what) 264 131 pc)) (by decide) (H.2.1 c1).1 ) (en_iast rfl (oX12_1c hp263) (by decide) (by decide)  (ev_vret rfl (H.2.1 c1).2))))))))))))))))))))))))))))))))))))) (fun c1 => (ev_aload_n rfl rfl   (ev_getP rfl rfl (oX12_k hp263) (oX12_1 hp263)   (en_sipush rfl rfl   (ev_iload rfl rfl   (en_iadd rfl   (ev_aload_n rfl rfl   (ev_getP rfl rfl (oX12_k hp263) (oX12_1 hp263)   (en_sipush rfl rfl   (ev_iload rfl rfl   (en_iadd rfl   (en_iconst rfl rfl   (en_isub rfl (H.2.2 c1).1  (en_iald rfl (oX12_1c hp263) (by decide) (H.2.2 c1).2.1 rfl (en_iast rfl (oX12_1c hp263) (by decide) (H.2.2 c1).2.2.1  (en_idec rfl (by decide) (H.2.2 c1).2.2.2.1 rfl rfl (ev_goto rfl (H.2.2 c1).2.2.2.2))))))))))))))))))))
theorem r_isTold {X : gv_X} {d : Nat} {G : gv_Sh} {A : Nat → Nat → Nat} {j : Nat → Nat → Int64} {cc : gv_Rs} {p : Nat} {what : Nat} {pc : Nat} (hp263 : oX12 G 263) (p0 : okW (A 264)) : Ev X (d + 1) gvm_277 0 (gv_enter [.ref 263, .int (nI p), .int (nI what), .int (nI pc)] 5) [] (G, (mI A, j), cc) (.inl none, (G, (mI (gw A 264 (toR (A 264) p what pc)), j), cc)) := by
  have hn := okW_n p0
  have L : ∀ n, n ≤ 236 → Ev X (d + 1) gvm_277 5 [some (.ref 263), some (.int (nI p)), some (.int (nI what)), some (.int (nI pc)), some (.int (nI (3 + n)))] [] (G, (mI (gw A 264 (fun i => if 128 + (3 + n) < i ∧ i < 368 then A 264 (i - 4) else A 264 i)), j), cc) (.inl none, (G, (mI (gw A 264 (toR (A 264) p what pc)), j), cc)) := by
    intro n
    induction n with
    | zero =>
      intro _
      refine w277_5 hp263 (gw_at _ _ _)  ⟨by (first | omega | (rw [if_neg (by omega)]; omega)), ⟨fun c1 => ⟨by (first | omega | (rw [if_neg (by omega)]; omega)), ?_⟩, fun c1 => ⟨by (first | omega | (rw [if_neg (by omega)]; omega)), ⟨by (first | omega | (rw [if_neg (by omega)]; omega)), ⟨by (first | omega | (rw [if_neg (by omega)]; omega)), ⟨by (first | omega | (rw [if_neg (by omega)]; omega)), ?_⟩⟩⟩⟩⟩⟩
      · have e : gu (gu (gu (gu (gu (gw A 264 (fun i => if 128 + (3 + 0) < i ∧ i < 368 then A 264 (i - 4) else A 264 i)) 264 128 ((fun i => if 128 + (3 + 0) < i ∧ i < 368 then A 264 (i - 4) else A 264 i) 8)) 264 129 p) 264 130 what) 264 131 pc) 264 10 (min 60 ((fun i => if 128 + (3 + 0) < i ∧ i < 368 then A 264 (i - 4) else A 264 i) 10 + 1)) = gw A 264 (toR (A 264) p what pc) := by
          simp only [gu_gw, gw_gw, gw_at]
          congr 1
        rw [← e]
      · omega
    | succ n ih =>
      intro hm
      have ih := ih (by omega)
      refine w277_5 hp263 (gw_at _ _ _)  ⟨by omega, ⟨fun c1 => ⟨by omega, ?_⟩, fun c1 => ⟨by omega, ⟨by omega, ⟨by omega, ⟨by omega, ?_⟩⟩⟩⟩⟩⟩
      · omega
      · rw [gu_gw, gw_gw, gw_at]
        have e : (fun b => if b = 128 + (3 + (n + 1)) then (if 128 + (3 + (n + 1)) < 128 + (3 + (n + 1)) - 4 ∧ 128 + (3 + (n + 1)) - 4 < 368 then A 264 (128 + (3 + (n + 1)) - 4 - 4) else A 264 (128 + (3 + (n + 1)) - 4)) else (if 128 + (3 + (n + 1)) < b ∧ b < 368 then A 264 (b - 4) else A 264 b)) = (fun i => if 128 + (3 + n) < i ∧ i < 368 then A 264 (i - 4) else A 264 i) := by
          funext b
          by_cases q : b = 128 + (3 + (n + 1))
          · rw [if_pos q, if_neg (by omega), if_pos (by omega), q]
          · rw [if_neg q]
            by_cases q2 : 128 + (3 + (n + 1)) < b ∧ b < 368
            · rw [if_pos q2, if_pos (by omega)]
            · rw [if_neg q2, if_neg (by omega)]
        rw [show 3 + (n + 1) - 1 = 3 + n by omega]
        rw [← e] at ih
        exact ih
  have h := L 236 (by omega)
  have e : (fun i => if 128 + (3 + 236) < i ∧ i < 368 then A 264 (i - 4) else A 264 i) = A 264 := by
    funext i
    rw [if_neg (by omega)]
  rw [e, gw_self] at h
  exact w277 hp263 rfl h
theorem w210 {X : gv_X} {d : Nat} {G : gv_Sh} {A : Nat → Nat → Nat} {j : Nat → Nat → Int64} {cc : gv_Rs} {r : gv_O × gv_S} {n : Nat} (hp263 : oX12 G 263) (H : ((((1103515245 * (A 264 11) % 4294967296) + 12345) % 4294967296) < 4294967296) ∧ ((((((1103515245 * (A 264 11) % 4294967296) + 12345) % 4294967296) / 65536 % 32768) < 2147483648) ∧ ((0 < n) ∧ ((n < 2147483648) ∧ (r = (.inl (some (.int (nI (((((1103515245 * (A 264 11) % 4294967296) + 12345) % 4294967296) / 65536 % 32768) % n)))), (G, (mI (gu A 264 11 (((1103515245 * (A 264 11) % 4294967296) + 12345) % 4294967296)), j), cc))))))) : Ev X (d + 0) gvm_210 0 (gv_enter [.ref 263, .int (nI n)] 2) [] (G, (mI A, j), cc) r :=
  (ev_aload_n rfl rfl   (ev_getP rfl rfl (oX12_k hp263) (oX12_1 hp263)   (en_bipush rfl rfl   (en_ldc rfl rfl   (ev_aload_n rfl rfl   (ev_getP rfl rfl (oX12_k hp263) (oX12_1 hp263)   (en_bipush rfl rfl   (en_iald rfl (oX12_1c hp263) (by decide) (by decide) rfl (en_imulw rfl   (en_sipush rfl rfl   (en_iaddw rfl   (en_iast rfl (oX12_1c hp263) (by decide) (by decide)  (ev_aload_n rfl rfl   (ev_getP rfl rfl (oX12_k hp263) (oX12_1 hp263)   (en_bipush rfl rfl   (en_iald rfl (oX12_1c hp263) (by decide) (by decide) (gu_hit _ _ _ _) (en_bipush rfl rfl   (ev_ishr rfl   (en_sipush rfl rfl   (en_shand rfl H.1  (ev_iload_n rfl rfl   (en_irem rfl H.2.1 H.2.2.1 H.2.2.2.1  (ev_ireti rfl rfl H.2.2.2.2)))))))))))))))))))))))
theorem r_drawn {X : gv_X} {d : Nat} {G : gv_Sh} {A : Nat → Nat → Nat} {j : Nat → Nat → Int64} {cc : gv_Rs} {n : Nat} (hp263 : oX12 G 263) (p0 : okW (A 264)) (p1 : 0 < n) (p2 : n < 2147483648) : Ev X (d + 0) gvm_210 0 (gv_enter [.ref 263, .int (nI n)] 2) [] (G, (mI A, j), cc) (.inl (some (.int (nI (drw (sdN (A 264 11)) n)))), (G, (mI (gw A 264 (sdR (A 264))), j), cc)) := by
  refine w210 hp263  ⟨by omega, ⟨by omega, ⟨by omega, ⟨by omega, ?_⟩⟩⟩⟩
  rw [gu_gw]
  rfl
