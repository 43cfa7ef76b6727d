/-! the traits laid -/
def frT (A B : Nat → Nat → Nat) : Prop := (∀ q, q ≠ 263 → q ≠ 271 → q ≠ 272 → q ≠ 273 → B q = A q) ∧ ∀ k, k < 19 ∨ 25 < k → B 263 k = A 263 k
theorem frT_rf (A : Nat → Nat → Nat) : frT A A := ⟨fun _ _ _ _ _ => rfl, fun _ _ => rfl⟩
theorem frT_tr {A B C : Nat → Nat → Nat} (h : frT A B) (h2 : frT B C) : frT A C := ⟨fun q a b c e => (h2.1 q a b c e).trans (h.1 q a b c e), fun k hk => (h2.2 k hk).trans (h.2 k hk)⟩
theorem frS_T {A B : Nat → Nat → Nat} (h : frS A B) : frT A B := ⟨fun q a b c _ => h.1 q a b c, h.2⟩
theorem frT_gu (A : Nat → Nat → Nat) (k v : Nat) : frT A (gu A 273 k v) := ⟨fun q _ _ _ e => gu_row e, fun _ _ => gu_q (by decide) rfl⟩
theorem frT_264 {A B : Nat → Nat → Nat} (h : frT A B) : B 264 = A 264 := h.1 264 (by decide) (by decide) (by decide) (by decide)
theorem tbN_lt (R : Nat → Nat) (p : Nat) : ∀ k, tbN R p k < 2 ^ k
  | 0 => Nat.zero_lt_one
  | k + 1 => by
    unfold tbN
    have h := tbN_lt R p k
    have h2 : 2 ^ k < 2 ^ (k + 1) := Nat.pow_lt_pow_right (by decide) (by omega)
    refine Nat.or_lt_two_pow (by omega) ?_
    split
    · exact Nat.two_pow_pos _
    · exact h2
theorem w261 {X : gv_X} {d : Nat} {G : gv_Sh} {A : Nat → Nat → Nat} {j : Nat → Nat → Int64} {cc : gv_Rs} {r : gv_O × gv_S} {p : Nat} (hp263 : oX12 G 263) (H : (((30 + (9 * p)) + 0) < 2066) ∧ ((((30 + (9 * p)) + 1) < 2066) ∧ (Ev X (d + 3) gvm_261 25 [some (.ref 263), some (.int (nI p)), some (.long ((((Int64.ofNat 2) * (Int32.toInt64 (nI (A 264 ((30 + (9 * p)) + 0))))) + (Int32.toInt64 (nI (A 264 ((30 + (9 * p)) + 1))))) + (Int64.ofNat 1))), none, some (.int (nI 0))] [] (G, (mI A, j), cc) r))) : Ev X (d + 3) gvm_261 0 (gv_enter [.ref 263, .int (nI p)] 5) [] (G, (mI A, j), cc) r :=
  (ev_ldc2 rfl   (ev_aload_n rfl rfl   (ev_iload_n rfl rfl   (en_iconst rfl rfl   (ev_virt rfl rfl rfl rfl rfl (oX12_k hp263) rfl rfl rfl (r_of (p := p) (what := 0) (A := A) hp263 H.1 ) (ev_i2l rfl   (ev_lmul rfl   (ev_aload_n rfl rfl   (ev_iload_n rfl rfl   (en_iconst rfl rfl   (ev_virt rfl rfl rfl rfl rfl (oX12_k hp263) rfl rfl rfl (r_of (p := p) (what := 1) (A := A) hp263 H.2.1 ) (ev_i2l rfl   (ev_ladd rfl   (ev_lconst rfl   (ev_ladd rfl   (ev_lstore_n rfl rfl   (en_iconst rfl rfl   (ev_istore rfl rfl   H.2.2))))))))))))))))))
theorem w261_25 {X : gv_X} {d : Nat} {G : gv_Sh} {A : Nat → Nat → Nat} {j : Nat → Nat → Int64} {cc : gv_Rs} {r : gv_O × gv_S} {p : Nat} {l2 : Int64} {l4 : Nat} (hp263 : oX12 G 263) (H : (((30 + (9 * p)) + 0) < 2066) ∧ ((l4 < 2147483648) ∧ (((A 264 ((30 + (9 * p)) + 0)) < 2147483648) ∧ ((((A 264 ((30 + (9 * p)) + 0)) ≤ l4) → r = (.inl (some (.long l2)), (G, (mI A, j), cc))) ∧ ((l4 < (A 264 ((30 + (9 * p)) + 0))) → (((30 + (9 * p)) + (3 + (2 * l4))) < 2066) ∧ ((((30 + (9 * p)) + ((3 + (2 * l4)) + 1)) < 2066) ∧ (Ev X (d + 3) gvm_261 25 [some (.ref 263), some (.int (nI p)), some (.long (((((Int64.ofNat 11) * l2) + (Int32.toInt64 (nI (A 264 ((30 + (9 * p)) + (3 + (2 * l4))))))) * (Int64.ofNat 8)) + (Int32.toInt64 (nI (A 264 ((30 + (9 * p)) + ((3 + (2 * l4)) + 1))))))), none, some (.int (nI (l4 + 1)))] [] (G, (mI A, j), cc) r))))))) : Ev X (d + 3) gvm_261 25 [some (.ref 263), some (.int (nI p)), some (.long l2), none, some (.int (nI l4))] [] (G, (mI A, j), cc) r :=
  (ev_iload rfl rfl   (ev_aload_n rfl rfl   (ev_iload_n rfl rfl   (en_iconst rfl rfl   (ev_virt rfl rfl rfl rfl rfl (oX12_k hp263) rfl rfl rfl (r_of (p := p) (what := 0) (A := A) hp263 H.1 ) (en_ic_ge rfl H.2.1 H.2.2.1 (fun c1 => (ev_lload_n rfl rfl   (ev_lret rfl (H.2.2.2.1 c1)))) (fun c1 => (ev_ldc2 rfl   (ev_lload_n rfl rfl   (ev_lmul rfl   (ev_aload_n rfl rfl   (ev_iload_n rfl rfl   (ev_iload rfl rfl   (ev_virt rfl rfl rfl rfl rfl (oX12_k hp263) rfl rfl rfl (r_kindOf (p := p) (k := l4) (A := A) hp263 (H.2.2.2.2 c1).1 ) (ev_i2l rfl   (ev_ladd rfl   (ev_ldc2 rfl   (ev_lmul rfl   (ev_aload_n rfl rfl   (ev_iload_n rfl rfl   (ev_iload rfl rfl   (ev_virt rfl rfl rfl rfl rfl (oX12_k hp263) rfl rfl rfl (r_numberOf (p := p) (k := l4) (A := A) hp263 (H.2.2.2.2 c1).2.1 ) (ev_i2l rfl   (ev_ladd rfl   (ev_lstore_n rfl rfl   (en_iinc rfl rfl rfl rfl   (ev_goto rfl (H.2.2.2.2 c1).2.2)))))))))))))))))))))))))))
theorem r_numberOfAll {X : gv_X} {d : Nat} {G : gv_Sh} {A : Nat → Nat → Nat} {j : Nat → Nat → Int64} {cc : gv_Rs} {p : Nat} (hp263 : oX12 G 263) (p0 : okW (A 264)) (p1 : p < 8) : Ev X (d + 3) gvm_261 0 (gv_enter [.ref 263, .int (nI p)] 5) [] (G, (mI A, j), cc) (.inl (some (.long (numA (A 264) p))), (G, (mI A, j), cc)) := by
  have hb := okW_o p0 p1
  have L : ∀ i k n, i + k = A 264 (30 + 9 * p + 0) → Ev X (d + 3) gvm_261 25 [some (.ref 263), some (.int (nI p)), some (.long (lN n)), none, some (.int (nI k))] [] (G, (mI A, j), cc) (.inl (some (.long (lN (nmN (fun k => A 264 (30 + 9 * p + (3 + 2 * k))) (fun k => A 264 (30 + 9 * p + (3 + 2 * k + 1))) i k n)))), (G, (mI A, j), cc)) := by
    intro i
    induction i with
    | zero =>
      intro k n hk
      refine w261_25 hp263  ⟨by omega, ⟨by omega, ⟨by omega, ⟨fun c1 => ?_, fun c1 => ⟨by omega, ⟨by omega, ?_⟩⟩⟩⟩⟩⟩
      · rfl
      · omega
    | succ i ih =>
      intro k n hk
      have hm := okW_m p0 p1 (k := k) (by omega)
      refine w261_25 hp263  ⟨by omega, ⟨by omega, ⟨by omega, ⟨fun c1 => ?_, fun c1 => ⟨by omega, ⟨by omega, ?_⟩⟩⟩⟩⟩⟩
      · omega
      · have h := ih (k + 1) ((11 * n + A 264 (30 + 9 * p + (3 + 2 * k))) * 8 + A 264 (30 + 9 * p + (3 + 2 * k + 1))) (by omega)
        rw [← lN_add, ← lN_mul, ← lN_add, ← lN_mul] at h
        rw [nI_l (n := A 264 (30 + 9 * p + (3 + 2 * k))) (by omega), nI_l (n := A 264 (30 + 9 * p + (3 + 2 * k + 1))) (by omega)]
        exact h
  refine w261 hp263  ⟨by omega, ⟨by omega, ?_⟩⟩
  have h := L (A 264 (30 + 9 * p + 0)) 0 (2 * A 264 (30 + 9 * p + 0) + A 264 (30 + 9 * p + 1) + 1) (by omega)
  rw [← lN_add, ← lN_add, ← lN_mul] at h
  rw [nI_l (n := A 264 (30 + 9 * p + 0)) (by omega), nI_l (n := A 264 (30 + 9 * p + 1)) (by omega)]
  exact h
theorem w262 {X : gv_X} {d : Nat} {G : gv_Sh} {A : Nat → Nat → Nat} {j : Nat → Nat → Int64} {cc : gv_Rs} {r : gv_O × gv_S}  (hp263 : oX12 G 263) (H : Ev X (d + 7) gvm_262 2 [some (.ref 263), some (.int (nI 0)), none, none, none] [] (G, (mI A, j), cc) r) : Ev X (d + 7) gvm_262 0 (gv_enter [.ref 263] 5) [] (G, (mI A, j), cc) r :=
  (en_iconst rfl rfl   (ev_istore_n rfl rfl   H))
theorem w262_2 {X : gv_X} {d : Nat} {G : gv_Sh} {A : Nat → Nat → Nat} {j : Nat → Nat → Int64} {cc : gv_Rs} {r : gv_O × gv_S} {l1 : Nat} {l2 : Option Value} {l4 : Option Value} (hp263 : oX12 G 263) (H : (l1 < 2147483648) ∧ (((A 264 0) < 2147483648) ∧ ((((A 264 0) ≤ l1) → r = (.inl none, (G, (mI A, j), cc))) ∧ ((l1 < (A 264 0)) → (okW (A 264)) ∧ ((l1 < 8) ∧ ((l1 < 8) ∧ (((¬ (lg_cmp (j 274 l1) (numA (A 264) l1)) = 0) → (l1 < 8) ∧ ((l1 < 8) ∧ (Ev X (d + 7) gvm_262 47 [some (.ref 263), some (.int (nI l1)), some (.long (numA (A 264) l1)), none, some (.int (nI 0))] [] (G, (mI (gu A 273 l1 0), (gu j 274 l1 (numA (A 264) l1))), cc) r))) ∧ (((lg_cmp (j 274 l1) (numA (A 264) l1)) = 0) → Ev X (d + 7) gvm_262 2 [some (.ref 263), some (.int (nI (l1 + 1))), some (.long (numA (A 264) l1)), none, l4] [] (G, (mI A, j), cc) r)))))))) : Ev X (d + 7) gvm_262 2 [some (.ref 263), some (.int (nI l1)), l2, none, l4] [] (G, (mI A, j), cc) r :=
  (ev_iload_n rfl rfl   (ev_aload_n rfl rfl   (ev_virt rfl rfl rfl rfl rfl (oX12_k hp263) rfl rfl rfl (r_ops (A := A) hp263 ) (en_ic_ge rfl H.1 H.2.1 (fun c1 => (ev_vret rfl (H.2.2.1 c1))) (fun c1 => (ev_aload_n rfl rfl   (ev_iload_n rfl rfl   (ev_virt rfl rfl rfl rfl rfl (oX12_k hp263) rfl rfl rfl (r_numberOfAll (p := l1) (A := A) hp263 (H.2.2.2 c1).1 (H.2.2.2 c1).2.1 ) (ev_lstore_n rfl rfl   (ev_aload_n rfl rfl   (ev_getP rfl rfl (oX12_k hp263) (oX12_27 hp263)   (ev_iload_n rfl rfl   (en_lald rfl (oX12_27c hp263) (by decide) (H.2.2.2 c1).2.2.1  (ev_lload_n rfl rfl   (ev_lcmp rfl   (ev_if_ne rfl  (fun c2 => (ev_aload_n rfl rfl   (ev_getP rfl rfl (oX12_k hp263) (oX12_27 hp263)   (ev_iload_n rfl rfl   (ev_lload_n rfl rfl   (en_last rfl (oX12_27c hp263) (by decide) ((H.2.2.2 c1).2.2.2.1 c2).1  (ev_aload_n rfl rfl   (ev_getP rfl rfl (oX12_k hp263) (oX12_26 hp263)   (ev_iload_n rfl rfl   (en_iconst rfl rfl   (en_iast rfl (oX12_26c hp263) (by decide) ((H.2.2.2 c1).2.2.2.1 c2).2.1  (en_iconst rfl rfl   (ev_istore rfl rfl   ((H.2.2.2 c1).2.2.2.1 c2).2.2))))))))))))) (fun c2 => (ev_goto rfl (en_iinc rfl rfl rfl rfl   (ev_goto rfl ((H.2.2.2 c1).2.2.2.2 c2)))))))))))))))))))))
theorem w262_47 {X : gv_X} {d : Nat} {G : gv_Sh} {A : Nat → Nat → Nat} {j : Nat → Nat → Int64} {cc : gv_Rs} {r : gv_O × gv_S} {l1 : Nat} {l2 : Int64} {l4 : Nat} {A11 : Nat → Nat → Nat} (hp263 : oX12 G 263) (v2 : (l4 ≤ 3) → Ev X (d + 0 + 6) gvm_260 0 (gv_enter [.ref 263, .int (nI l1), .int (nI l4)] 4) [] (G, (mI A, j), cc) (.inl (some (.int (nI (wit (A 264) l1 l4)))), (G, (mI A11, j), cc))) (H : (l4 < 2147483648) ∧ (((3 < l4) → Ev X (d + 7) gvm_262 2 [some (.ref 263), some (.int (nI (l1 + 1))), some (.long l2), none, some (.int (nI l4))] [] (G, (mI A, j), cc) r) ∧ ((l4 ≤ 3) → (l1 < 8) ∧ (((wit (A 264) l1 l4) < 4294967296) ∧ (((¬ (wit (A 264) l1 l4) = 4294967295) → (l4 < 32) ∧ ((l1 < 8) ∧ (Ev X (d + 7) gvm_262 47 [some (.ref 263), some (.int (nI l1)), some (.long l2), none, some (.int (nI (l4 + 1)))] [] (G, (mI (gu A11 273 l1 ((A 273 l1) ||| (2 ^ l4))), j), cc) r))) ∧ (((wit (A 264) l1 l4) = 4294967295) → (l1 < 8) ∧ (Ev X (d + 7) gvm_262 47 [some (.ref 263), some (.int (nI l1)), some (.long l2), none, some (.int (nI (l4 + 1)))] [] (G, (mI (gu A11 273 l1 ((A 273 l1) ||| 0)), j), cc) r))))))) : Ev X (d + 7) gvm_262 47 [some (.ref 263), some (.int (nI l1)), some (.long l2), none, some (.int (nI l4))] [] (G, (mI A, j), cc) r :=
  (ev_iload rfl rfl   (en_iconst rfl rfl   (en_ic_gt rfl H.1 (by decide) (fun c1 => (en_iinc rfl rfl rfl rfl   (ev_goto rfl (H.2.1 c1)))) (fun c1 => (ev_aload_n rfl rfl   (ev_getP rfl rfl (oX12_k hp263) (oX12_26 hp263)   (ev_iload_n rfl rfl   (ev_dup2 rfl rfl   (en_iald rfl (oX12_26c hp263) (by decide) (H.2.2 c1).1 rfl (ev_aload_n rfl rfl   (ev_iload_n rfl rfl   (ev_iload rfl rfl   (ev_virt rfl rfl rfl rfl rfl (oX12_k hp263) rfl rfl rfl (v2 c1) (en_iconst rfl (by decide)   (en_ic_ne rfl (H.2.2 c1).2.1 (by decide) (fun c3 => (en_iconst rfl rfl   (ev_iload rfl rfl   (en_ishl1 rfl ((H.2.2 c1).2.2.1 c3).1  (en_ior rfl   (en_iast rfl (oX12_26c hp263) (by decide) ((H.2.2 c1).2.2.1 c3).2.1  (en_iinc rfl rfl rfl rfl   (ev_goto rfl ((H.2.2 c1).2.2.1 c3).2.2)))))))) (fun c3 => (en_iconst rfl rfl   (ev_goto rfl (en_ior rfl   (en_iast rfl (oX12_26c hp263) (by decide) ((H.2.2 c1).2.2.2 c3).1  (en_iinc rfl rfl rfl rfl   (ev_goto rfl ((H.2.2 c1).2.2.2 c3).2))))))))))))))))))))))
theorem r_laysTraits {X : gv_X} {d : Nat} {G : gv_Sh} {A : Nat → Nat → Nat} {j : Nat → Nat → Int64} {cc : gv_Rs}  (hp263 : oX12 G 263) (p0 : okW (A 264)) (p1 : TrI A j) : ∃ A1 : Nat → Nat → Nat, ∃ j1 : Nat → Nat → Int64, Ev X (d + 7) gvm_262 0 (gv_enter [.ref 263] 5) [] (G, (mI A, j), cc) (.inl none, (G, (mI A1, j1), cc)) ∧ (frT A A1) ∧ (∀ q, q ≠ 274 → j1 q = j q) ∧ (TrI A1 j1) ∧ (∀ p, p < A 264 0 → A1 273 p = tbN (A 264) p 4) ∧ (∀ p, A 264 0 ≤ p → A1 273 p = A 273 p) := by
  have hn := okW_n p0
  have I : ∀ i n B jj k l2, i + n = 4 → k < A 264 0 → frT A B → B 273 k = tbN (A 264) k n → ∃ C, (frT B C ∧ C 273 k = tbN (A 264) k 4 ∧ ∀ p, p ≠ k → C 273 p = B 273 p) ∧ ∀ r, Ev X (d + 7) gvm_262 2 [some (.ref 263), some (.int (nI (k + 1))), (some (.long l2)), none, (some (.int (nI 4)))] [] (G, (mI C, jj), cc) r → Ev X (d + 7) gvm_262 47 [some (.ref 263), some (.int (nI k)), some (.long l2), none, some (.int (nI n))] [] (G, (mI B, jj), cc) r := by
    intro i
    induction i with
    | zero =>
      intro n B jj k l2 hi hk hB ht
      obtain rfl : n = 4 := by omega
      refine ⟨B, ⟨frT_rf B, ht, fun _ _ => rfl⟩, fun r hr => ?_⟩
      refine w262_47 hp263 (A11 := B) (fun h => absurd h (by decide)) ⟨by omega, ⟨fun c1 => ?_, fun c1 => ⟨by omega, ⟨by omega, ⟨fun c3 => ⟨by omega, ⟨by omega, ?_⟩⟩, fun c3 => ⟨by omega, ?_⟩⟩⟩⟩⟩⟩
      · exact hr
      all_goals omega
    | succ i ih =>
      intro n B jj k l2 hi hk hB ht
      have hR : B 264 = A 264 := frT_264 hB
      obtain ⟨B1, hE, hf⟩ := r_witnessOf (X := X) (d := d) (G := G) (j := jj) (cc := cc) (A := B) (p := k) (what := n) hp263 (hR ▸ p0) (by omega) (by omega)
      have hw : wit (B 264) k n < 4294967296 := by
        unfold wit
        split
        · decide
        · have : ∀ f i m, lstN f i m ≤ m + i := by
            intro f i
            induction i with
            | zero => intro m; exact Nat.le_refl _
            | succ i ih =>
              intro m
              unfold lstN
              split
              · omega
              · have := ih (m + 1); omega
          have := this (trB (B 264) k n) 512 0
          omega
      have hr : B1 273 = B 273 := hf.1 273 (by decide) (by decide) (by decide)
      have ht' : tbN (A 264) k (n + 1) = B 273 k ||| (if wit (B 264) k n = 4294967295 then 0 else 2 ^ n) := by rw [ht, hR]; rfl
      obtain ⟨C, ⟨c1, c2, c3⟩, hC⟩ := ih (n + 1) (gu B1 273 k (tbN (A 264) k (n + 1))) jj k l2 (by omega) hk (frT_tr hB (frT_tr (frS_T hf) (frT_gu _ _ _))) (gu_hit _ _ _ _)
      refine ⟨C, ⟨frT_tr (frT_tr (frS_T hf) (frT_gu _ _ _)) c1, c2, fun p hp => ?_⟩, fun r hr2 => ?_⟩
      · rw [c3 p hp]
        exact gu_k hp (by rw [hr])
      · have h := hC r hr2
        rw [ht'] at h
        refine w262_47 hp263 (fun _ => hE) ⟨by (first | omega | (rw [hr]; omega)), ⟨fun c1 => ?_, fun c1 => ⟨by (first | omega | (rw [hr]; omega)), ⟨by (first | omega | (rw [hr]; omega)), ⟨fun c3 => ⟨by (first | omega | (rw [hr]; omega)), ⟨by (first | omega | (rw [hr]; omega)), ?_⟩⟩, fun c3 => ⟨by (first | omega | (rw [hr]; omega)), ?_⟩⟩⟩⟩⟩⟩
        · omega
        · rw [if_neg c3] at h; exact h
        · rw [if_pos c3] at h; exact h
  have L : ∀ i k B jj l2 l4, i + k = A 264 0 → frT A B → (∀ q, q ≠ 274 → jj q = j q) → TrI B jj → (∀ p, p < k → B 273 p = tbN (A 264) p 4) → (∀ p, A 264 0 ≤ p → B 273 p = A 273 p) → ∃ A1 j1, Ev X (d + 7) gvm_262 2 [some (.ref 263), some (.int (nI k)), l2, none, l4] [] (G, (mI B, jj), cc) (.inl none, (G, (mI A1, j1), cc)) ∧ frT A A1 ∧ (∀ q, q ≠ 274 → j1 q = j q) ∧ TrI A1 j1 ∧ (∀ p, p < A 264 0 → A1 273 p = tbN (A 264) p 4) ∧ ∀ p, A 264 0 ≤ p → A1 273 p = A 273 p := by
    intro i
    induction i with
    | zero =>
      intro k B jj l2 l4 hk hB hj hT hp hu
      have hR : B 264 = A 264 := frT_264 hB
      refine ⟨B, jj, ?_, hB, hj, hT, fun p h => hp p (by omega), hu⟩
      refine w262_2 hp263  ⟨by (first | omega | (rw [hR]; omega) | (rw [hR] at c1; omega) | (rw [hR]; exact p0)), ⟨by (first | omega | (rw [hR]; omega) | (rw [hR] at c1; omega) | (rw [hR]; exact p0)), ⟨fun c1 => ?_, fun c1 => ⟨by (first | omega | (rw [hR]; omega) | (rw [hR] at c1; omega) | (rw [hR]; exact p0)), ⟨by (first | omega | (rw [hR]; omega) | (rw [hR] at c1; omega) | (rw [hR]; exact p0)), ⟨by (first | omega | (rw [hR]; omega) | (rw [hR] at c1; omega) | (rw [hR]; exact p0)), ⟨fun c2 => ⟨by (first | omega | (rw [hR]; omega) | (rw [hR] at c1; omega) | (rw [hR]; exact p0)), ⟨by (first | omega | (rw [hR]; omega) | (rw [hR] at c1; omega) | (rw [hR]; exact p0)), ?_⟩⟩, fun c2 => ?_⟩⟩⟩⟩⟩⟩⟩
      · rfl
      all_goals (rw [hR] at c1; omega)
    | succ i ih =>
      intro k B jj l2 l4 hk hB hj hT hp hu
      have hR : B 264 = A 264 := frT_264 hB
      have h1 := okW_1 p0 (p := k) (by omega)
      by_cases he : jj 274 k = numA (B 264) k
      · obtain ⟨A1, j1, hE, h2⟩ := ih (k + 1) B jj (some (.long (numA (B 264) k))) l4 (by omega) hB hj hT (fun p h => by
          by_cases hpk : p = k
          · subst hpk
            exact hT p (by omega) _ p0 h1 (hR ▸ he)
          · exact hp p (by omega)) hu
        refine ⟨A1, j1, ?_, h2⟩
        refine w262_2 hp263  ⟨by (first | omega | (rw [hR]; omega) | (rw [hR] at c1; omega) | (rw [hR]; exact p0)), ⟨by (first | omega | (rw [hR]; omega) | (rw [hR] at c1; omega) | (rw [hR]; exact p0)), ⟨fun c1 => ?_, fun c1 => ⟨by (first | omega | (rw [hR]; omega) | (rw [hR] at c1; omega) | (rw [hR]; exact p0)), ⟨by (first | omega | (rw [hR]; omega) | (rw [hR] at c1; omega) | (rw [hR]; exact p0)), ⟨by (first | omega | (rw [hR]; omega) | (rw [hR] at c1; omega) | (rw [hR]; exact p0)), ⟨fun c2 => ⟨by (first | omega | (rw [hR]; omega) | (rw [hR] at c1; omega) | (rw [hR]; exact p0)), ⟨by (first | omega | (rw [hR]; omega) | (rw [hR] at c1; omega) | (rw [hR]; exact p0)), ?_⟩⟩, fun c2 => ?_⟩⟩⟩⟩⟩⟩⟩
        · rw [hR] at c1; omega
        · exact absurd ((lg_cmp_eq _ _).mpr he) c2
        · exact hE
      · obtain ⟨C, ⟨c1, c2, c3⟩, hC⟩ := I 4 0 (gu B 273 k 0) (gu jj 274 k (numA (B 264) k)) k (numA (B 264) k) (by omega) (by omega) (frT_tr hB (frT_gu _ _ _)) (gu_hit _ _ _ _)
        obtain ⟨A1, j1, hE, h2⟩ := ih (k + 1) C (gu jj 274 k (numA (B 264) k)) (some (.long (numA (B 264) k))) (some (.int (nI 4))) (by omega) (frT_tr hB (frT_tr (frT_gu _ _ _) c1)) (fun q hq => by rw [gu_row hq]; exact hj q hq) (fun p hp8 S hS hl e => by
            by_cases hpk : p = k
            · subst hpk
              rw [gu_hit] at e
              rw [c2]
              exact tbN_congr (numA_inj p0 hS hp8 h1 hl (hR ▸ e)) 4
            · rw [c3 p hpk, show gu B 273 k 0 273 p = B 273 p from gu_k hpk rfl]
              rw [show gu jj 274 k (numA (B 264) k) 274 p = jj 274 p from gu_k hpk rfl] at e
              exact hT p hp8 S hS hl e) (fun p h => by
            by_cases hpk : p = k
            · subst hpk; exact c2
            · rw [c3 p hpk, show gu B 273 k 0 273 p = B 273 p from gu_k hpk rfl]
              exact hp p (by omega)) (fun p h => by rw [c3 p (by omega), show gu B 273 k 0 273 p = B 273 p from gu_k (by omega) rfl]; exact hu p h)
        refine ⟨A1, j1, ?_, h2⟩
        refine w262_2 hp263  ⟨by (first | omega | (rw [hR]; omega) | (rw [hR] at c1; omega) | (rw [hR]; exact p0)), ⟨by (first | omega | (rw [hR]; omega) | (rw [hR] at c1; omega) | (rw [hR]; exact p0)), ⟨fun c1 => ?_, fun c1 => ⟨by (first | omega | (rw [hR]; omega) | (rw [hR] at c1; omega) | (rw [hR]; exact p0)), ⟨by (first | omega | (rw [hR]; omega) | (rw [hR] at c1; omega) | (rw [hR]; exact p0)), ⟨by (first | omega | (rw [hR]; omega) | (rw [hR] at c1; omega) | (rw [hR]; exact p0)), ⟨fun c2 => ⟨by (first | omega | (rw [hR]; omega) | (rw [hR] at c1; omega) | (rw [hR]; exact p0)), ⟨by (first | omega | (rw [hR]; omega) | (rw [hR] at c1; omega) | (rw [hR]; exact p0)), ?_⟩⟩, fun c2 => ?_⟩⟩⟩⟩⟩⟩⟩
        · rw [hR] at c1; omega
        · exact hC _ hE
        · exact absurd ((lg_cmp_eq _ _).mp c2) he
  obtain ⟨A1, j1, hE, h⟩ := L (A 264 0) 0 A j none none (by omega) (frT_rf A) (fun _ _ => rfl) p1 (fun p h => by omega) (fun _ _ => rfl)
  exact ⟨A1, j1, w262 hp263 hE, h⟩
theorem w263 {X : gv_X} {d : Nat} {G : gv_Sh} {A : Nat → Nat → Nat} {j : Nat → Nat → Int64} {cc : gv_Rs} {r : gv_O × gv_S} {p : Nat} (hp263 : oX12 G 263) (H : (p < 8) ∧ ((((A 273 p) % 8) < 4294967296) ∧ (((((A 273 p) % 8) = 0) → r = (.inl (some (.int (nI 0))), (G, (mI A, j), cc))) ∧ ((¬ ((A 273 p) % 8) = 0) → r = (.inl (some (.int (nI 1))), (G, (mI A, j), cc)))))) : Ev X (d + 0) gvm_263 0 (gv_enter [.ref 263, .int (nI p)] 2) [] (G, (mI A, j), cc) r :=
  (ev_aload_n rfl rfl   (ev_getP rfl rfl (oX12_k hp263) (oX12_26 hp263)   (ev_iload_n rfl rfl   (en_iald rfl (oX12_26c hp263) (by decide) H.1 rfl (en_bipush rfl rfl   (en_iandm 3 8 rfl rfl rfl   (en_if_eq rfl H.2.1 (fun c1 => (en_iconst rfl rfl   (ev_iretz rfl rfl (Or.inl rfl) (H.2.2.1 c1)))) (fun c1 => (en_iconst rfl rfl   (ev_goto rfl (ev_iretz rfl rfl (Or.inr rfl) (H.2.2.2 c1))))))))))))
theorem r_isSensitive {X : gv_X} {d : Nat} {G : gv_Sh} {A : Nat → Nat → Nat} {j : Nat → Nat → Int64} {cc : gv_Rs} {p : Nat} (hp263 : oX12 G 263) (p0 : p < 8) : Ev X (d + 0) gvm_263 0 (gv_enter [.ref 263, .int (nI p)] 2) [] (G, (mI A, j), cc) (.inl (some (.int (zo (!decide (A 273 p % 8 = 0))))), (G, (mI A, j), cc)) := by
  refine w263 hp263  ⟨by omega, ⟨by omega, ⟨fun c1 => ?_, fun c1 => ?_⟩⟩⟩
  · exact rz0 (by simp [c1])
  · exact rz1 (by simp [c1])
