/-! the traits as the reference finds them -/
def lkM (A : Nat → Nat → Nat) (s mo ba cl b : Nat) : Mc := (s % 4, mo, ba, cl, A 263 23, cpN (stP s b) (A 271) 8)
theorem lkM_eq (A : Nat → Nat → Nat) (s mo ba cl b : Nat) : eqM (mSk0 (lkM A s mo ba cl b)) (mSk0 (stM s mo ba cl b)) := ⟨rfl, rfl, rfl, rfl, rfl, fun k hk => if_pos hk⟩
theorem lkM_ok {A : Nat → Nat → Nat} {s mo ba cl b : Nat} (h : mo ≤ 1) (h2 : ba ≤ 6) (h3 : ba % 2 = 0) (h4 : cl ≤ 7) : okM (mSk0 (lkM A s mo ba cl b)) := ⟨by show s % 4 ≤ 3; omega, h, ⟨h2, h3⟩, h4, Nat.zero_le 1, fun k hk => by show cpN (stP s b) (A 271) 8 k ≤ 3; unfold cpN; rw [if_pos hk]; show (_ % 4) ≤ 3; omega⟩
def kWr (A : Nat → Nat → Nat) : Nat → Nat → Nat := gw (gu (gu A 263 24 (A 263 19)) 263 25 (A 263 23)) 272 (cpN (A 271) (A 272) 8)
theorem kWr_o {A : Nat → Nat → Nat} {q : Nat} (h : q ≠ 263) (h2 : q ≠ 272) : kWr A q = A q := by unfold kWr; rw [gw_row h2, gu_row h, gu_row h]
theorem kWr_f {A : Nat → Nat → Nat} {k : Nat} (h : k < 24 ∨ 25 < k) : kWr A 263 k = A 263 k := by unfold kWr; rw [gw_row (by decide)]; exact gu_k (by omega) (gu_k (by omega) rfl)
theorem kWr_m (A : Nat → Nat → Nat) : mRd (kWr A) = mRd A := by
  unfold mRd
  rw [kWr_f (by omega), kWr_f (by omega), kWr_f (by omega), kWr_f (by omega), kWr_f (by omega), kWr_o (by decide) (by decide)]
theorem kWr_k (A : Nat → Nat → Nat) : (kRd (kWr A)).1 = (mRd A).1 ∧ (kRd (kWr A)).2.2.2.2.1 = (mRd A).2.2.2.2.1 ∧ ∀ k, k < 8 → (kRd (kWr A)).2.2.2.2.2 k = (mRd A).2.2.2.2.2 k := by
  refine ⟨?_, ?_, fun k hk => ?_⟩
  · show kWr A 263 24 = _
    unfold kWr; rw [gw_row (by decide)]; exact gu_k (by decide) (gu_hit _ _ _ _)
  · show kWr A 263 25 = _
    unfold kWr; rw [gw_row (by decide)]; exact gu_hit _ _ _ _
  · show kWr A 272 k = _
    unfold kWr; rw [gw_at]; exact if_pos hk
theorem kWr_s (A : Nat → Nat → Nat) : frS A (kWr A) := ⟨fun _ a _ c => kWr_o a c, fun _ hk => kWr_f (by omega)⟩
theorem mWr_k (A : Nat → Nat → Nat) (c : Mc) : kRd (mWr A c) = kRd A := by
  unfold kRd
  rw [mWr_f (by omega), mWr_f (by omega), mWr_o (by decide) (by decide)]
theorem kWr_264 (A : Nat → Nat → Nat) : kWr A 264 = A 264 := kWr_o (by decide) (by decide)
def unlN (b : Nat) (c e : Mc) (n : Nat) : Bool := !(decide (c.1 = e.1) && decide (c.2.2.2.2.1 = e.2.2.2.2.1) && allN (fun k => decide (e.2.2.2.2.2 ((k + b) % 8) = c.2.2.2.2.2 k)) n)
theorem unlN_s (b : Nat) (c e : Mc) (k : Nat) : unlN b c e (k + 1) = !(!(unlN b c e k) && decide (e.2.2.2.2.2 ((k + b) % 8) = c.2.2.2.2.2 k)) := by
  simp only [unlN, allN, Bool.not_not, Bool.and_assoc]
theorem unlN_0 (b : Nat) (c e : Mc) : unlN b c e 0 = !(decide (c.1 = e.1) && decide (c.2.2.2.2.1 = e.2.2.2.2.1)) := by
  simp only [unlN, allN, Bool.and_true]
/-- of two memories only what isUnlike sees -/
def eqU (c e : Mc) : Prop := c.1 = e.1 ∧ c.2.2.2.2.1 = e.2.2.2.2.1 ∧ ∀ k, k < 8 → c.2.2.2.2.2 k = e.2.2.2.2.2 k
theorem unl_eqU {b : Nat} {c e c' e' : Mc} (h : eqU c c') (h2 : eqU e e') : unl b c e = unl b c' e' := by
  unfold unl
  rw [h.1, h2.1, h.2.1, h2.2.1]
  congr 2
  apply allN_congr
  intro k hk
  rw [h.2.2 k hk, h2.2.2 _ (by omega)]
theorem eqM_U {c e : Mc} (h : eqM c e) : eqU c e := ⟨h.1, h.2.2.2.2.1, h.2.2.2.2.2⟩
def okU (c : Mc) : Prop := c.1 ≤ 3 ∧ c.2.2.2.2.1 ≤ 1 ∧ ∀ k, k < 8 → c.2.2.2.2.2 k ≤ 3
theorem okU_M {c : Mc} (h : okM c) : okU c := ⟨h.1, h.2.2.2.2.1, h.2.2.2.2.2⟩
theorem okU_eq {c e : Mc} (h : eqU c e) (h2 : okU e) : okU c := ⟨h.1 ▸ h2.1, h.2.1 ▸ h2.2.1, fun k hk => h.2.2 k hk ▸ h2.2.2 k hk⟩
theorem w248 {X : gv_X} {d : Nat} {G : gv_Sh} {A : Nat → Nat → Nat} {j : Nat → Nat → Int64} {cc : gv_Rs} {r : gv_O × gv_S} {s : Nat} {mo : Nat} {ba : Nat} {cl : Nat} {sh : Bool} (hp263 : oX12 G 263) (H : (s < 2147483648) ∧ ((s < 2147483648) ∧ (((s / 32) < 2147483648) ∧ (((sh = false) → Ev X (d + 1) gvm_248 50 [some (.ref 263), some (.int (nI s)), some (.int (nI mo)), some (.int (nI ba)), some (.int (nI cl)), some (.int (zo sh)), some (.int (nI ((s / 32) % 16))), some (.int (nI 0)), some (.int (nI 0))] [] (G, (mI (gu (gu (gu (gu A 263 19 (s % 4)) 263 20 mo) 263 21 ba) 263 22 cl), j), cc) r) ∧ ((sh = true) → (s < 2147483648) ∧ (Ev X (d + 1) gvm_248 50 [some (.ref 263), some (.int (nI s)), some (.int (nI mo)), some (.int (nI ba)), some (.int (nI cl)), some (.int (zo sh)), some (.int (nI ((s / 32) % 16))), some (.int (nI (2 * (s / 8 % 4)))), some (.int (nI 0))] [] (G, (mI (gu (gu (gu (gu A 263 19 (s % 4)) 263 20 mo) 263 21 ba) 263 22 cl), j), cc) r)))))) : Ev X (d + 1) gvm_248 0 (gv_enter [.ref 263, .int (nI s), .int (nI mo), .int (nI ba), .int (nI cl), .int (zo sh)] 9) [] (G, (mI A, j), cc) r :=
  (ev_aload_n rfl rfl   (ev_iload_n rfl rfl   (en_iconst rfl rfl   (en_irem rfl H.1 (by decide) (by decide)  (en_putI rfl rfl (oX12_k hp263)   (ev_aload_n rfl rfl   (ev_iload_n rfl rfl   (en_putI rfl rfl (oX12_k hp263)   (ev_aload_n rfl rfl   (ev_iload_n rfl rfl   (en_putI rfl rfl (oX12_k hp263)   (ev_aload_n rfl rfl   (ev_iload rfl rfl   (en_putI rfl rfl (oX12_k hp263)   (ev_iload_n rfl rfl   (en_bipush rfl rfl   (en_idiv rfl H.2.1 (by decide) (by decide)  (en_bipush rfl rfl   (en_irem rfl H.2.2.1 (by decide) (by decide)  (ev_istore rfl rfl   (ev_iload rfl rfl   (ev_if_eq_zo rfl  (fun c1 => (en_iconst rfl rfl   (ev_istore rfl rfl   (en_iconst rfl rfl   (ev_istore rfl rfl   (H.2.2.2.1 c1)))))) (fun c1 => (ev_iload_n rfl rfl   (ev_stat rfl rfl rfl rfl rfl rfl rfl rfl (r_baseOf (s := s) (A := (gu (gu (gu (gu A 263 19 (s % 4)) 263 20 mo) 263 21 ba) 263 22 cl)) (H.2.2.2.2 c1).1 ) (ev_goto rfl (ev_istore rfl rfl   (en_iconst rfl rfl   (ev_istore rfl rfl   (H.2.2.2.2 c1).2)))))))))))))))))))))))))))))
theorem w248_50 {X : gv_X} {d : Nat} {G : gv_Sh} {A : Nat → Nat → Nat} {j : Nat → Nat → Int64} {cc : gv_Rs} {r : gv_O × gv_S} {s : Nat} {mo : Nat} {ba : Nat} {cl : Nat} {sh : Bool} {l6 : Nat} {l7 : Nat} {l8 : Nat} (hp263 : oX12 G 263) (H : (l8 < 2147483648) ∧ (((8 ≤ l8) → r = (.inl none, (G, (mI A, j), cc))) ∧ ((l8 < 8) → (l6 < 2147483648) ∧ (((l8 + l7) < 2147483648) ∧ ((l6 < 2147483648) ∧ (((((l6 % 4) * ((l8 + l7) % 8)) + (l6 / 4)) < 2147483648) ∧ ((l8 < 8) ∧ (Ev X (d + 1) gvm_248 50 [some (.ref 263), some (.int (nI s)), some (.int (nI mo)), some (.int (nI ba)), some (.int (nI cl)), some (.int (zo sh)), some (.int (nI l6)), some (.int (nI l7)), some (.int (nI (l8 + 1)))] [] (G, (mI (gu A 271 l8 ((((l6 % 4) * ((l8 + l7) % 8)) + (l6 / 4)) % 4)), j), cc) r)))))))) : Ev X (d + 1) gvm_248 50 [some (.ref 263), some (.int (nI s)), some (.int (nI mo)), some (.int (nI ba)), some (.int (nI cl)), some (.int (zo sh)), some (.int (nI l6)), some (.int (nI l7)), some (.int (nI l8))] [] (G, (mI A, j), cc) r :=
  (ev_iload rfl rfl   (en_bipush rfl rfl   (en_ic_ge rfl H.1 (by decide) (fun c1 => (ev_vret rfl (H.2.1 c1))) (fun c1 => (ev_aload_n rfl rfl   (ev_getP rfl rfl (oX12_k hp263) (oX12_17 hp263)   (ev_iload rfl rfl   (ev_iload rfl rfl   (en_iconst rfl rfl   (en_irem rfl (H.2.2 c1).1 (by decide) (by decide)  (ev_iload rfl rfl   (ev_iload rfl rfl   (en_iadd rfl   (en_bipush rfl rfl   (en_irem rfl (H.2.2 c1).2.1 (by decide) (by decide)  (en_imul rfl   (ev_iload rfl rfl   (en_iconst rfl rfl   (en_idiv rfl (H.2.2 c1).2.2.1 (by decide) (by decide)  (en_iadd rfl   (en_iconst rfl rfl   (en_irem rfl (H.2.2 c1).2.2.2.1 (by decide) (by decide)  (en_iast rfl (oX12_17c hp263) (by decide) (H.2.2 c1).2.2.2.2.1  (en_iinc rfl rfl rfl rfl   (ev_goto rfl (H.2.2 c1).2.2.2.2.2)))))))))))))))))))))))))
theorem r_isLike {X : gv_X} {d : Nat} {G : gv_Sh} {A : Nat → Nat → Nat} {j : Nat → Nat → Int64} {cc : gv_Rs} {s : Nat} {mo : Nat} {ba : Nat} {cl : Nat} {sh : Bool} (hp263 : oX12 G 263) (p0 : s < 2147483648) : Ev X (d + 1) gvm_248 0 (gv_enter [.ref 263, .int (nI s), .int (nI mo), .int (nI ba), .int (nI cl), .int (zo sh)] 9) [] (G, (mI A, j), cc) (.inl none, (G, (mI (mWr A (lkM A s mo ba cl (bif sh then 2 * (s / 8 % 4) else 0))), j), cc)) := by
  have hB : (gu (gu (gu (gu A 263 19 (s % 4)) 263 20 mo) 263 21 ba) 263 22 cl) 271 = A 271 := by rw [gu_row (by decide), gu_row (by decide), gu_row (by decide), gu_row (by decide)]
  have e8 : ∀ b, gw (gu (gu (gu (gu A 263 19 (s % 4)) 263 20 mo) 263 21 ba) 263 22 cl) 271 (cpN (stP s b) (A 271) 8) = (mWr A (lkM A s mo ba cl b)) := by
    intro b
    simp only [mW_19, mW_20, mW_21, mW_22, mW_row, mWr_Wr, mRd_Wr]
    rfl
  have L : ∀ b, b ≤ 6 → ∀ k, k ≤ 8 → Ev X (d + 1) gvm_248 50 [some (.ref 263), some (.int (nI s)), some (.int (nI mo)), some (.int (nI ba)), some (.int (nI cl)), some (.int (zo sh)), some (.int (nI (s / 32 % 16))), some (.int (nI b)), some (.int (nI k))] [] (G, (mI (gw (gu (gu (gu (gu A 263 19 (s % 4)) 263 20 mo) 263 21 ba) 263 22 cl) 271 (cpN (stP s b) (A 271) k)), j), cc) (.inl none, (G, (mI (mWr A (lkM A s mo ba cl b)), j), cc)) := by
    intro b hb
    refine up_ind 8 ?_ ?_
    · refine w248_50 hp263  ⟨by omega, ⟨fun c1 => ?_, fun c1 => ⟨by omega, ⟨by omega, ⟨by omega, ⟨by omega, ⟨by omega, ?_⟩⟩⟩⟩⟩⟩⟩
      · rw [e8]
      all_goals omega
    · intro k hk ih
      have hx : s / 32 % 16 % 4 * ((k + b) % 8) ≤ 3 * 7 := Nat.mul_le_mul (by omega) (by omega)
      refine w248_50 hp263  ⟨by omega, ⟨fun c1 => ?_, fun c1 => ⟨by omega, ⟨by omega, ⟨by omega, ⟨by omega, ⟨by omega, ?_⟩⟩⟩⟩⟩⟩⟩
      · omega
      · rw [← cpN_s] at ih
        exact ih
  have L0 : ∀ b, b ≤ 6 → Ev X (d + 1) gvm_248 50 [some (.ref 263), some (.int (nI s)), some (.int (nI mo)), some (.int (nI ba)), some (.int (nI cl)), some (.int (zo sh)), some (.int (nI (s / 32 % 16))), some (.int (nI b)), some (.int (nI 0))] [] (G, (mI (gu (gu (gu (gu A 263 19 (s % 4)) 263 20 mo) 263 21 ba) 263 22 cl), j), cc) (.inl none, (G, (mI (mWr A (lkM A s mo ba cl b)), j), cc)) := by
    intro b hb
    have h := L b hb 0 (by omega)
    rw [cpN_0, ← hB, gw_self] at h
    exact h
  refine w248 hp263  ⟨by omega, ⟨by omega, ⟨by omega, ⟨fun c1 => ?_, fun c1 => ⟨by omega, ?_⟩⟩⟩⟩⟩
  · subst c1; exact L0 0 (by omega)
  · subst c1; exact L0 _ (by omega)
theorem w254 {X : gv_X} {d : Nat} {G : gv_Sh} {A : Nat → Nat → Nat} {j : Nat → Nat → Int64} {cc : gv_Rs} {r : gv_O × gv_S}  (hp263 : oX12 G 263) (H : ((A 263 23) < 2) ∧ (Ev X (d + 0) gvm_254 18 [some (.ref 263), some (.int (nI 0))] [] (G, (mI (gu (gu A 263 24 (A 263 19)) 263 25 (A 263 23)), j), cc) r)) : Ev X (d + 0) gvm_254 0 (gv_enter [.ref 263] 2) [] (G, (mI A, j), cc) r :=
  (ev_aload_n rfl rfl   (ev_aload_n rfl rfl   (en_getI rfl rfl (oX12_k hp263) rfl   (en_putI rfl rfl (oX12_k hp263)   (ev_aload_n rfl rfl   (ev_aload_n rfl rfl   (en_getZ rfl rfl (oX12_k hp263) (gu_k (by decide) rfl)   (en_putZ rfl rfl (oX12_k hp263) H.1  (en_iconst rfl rfl   (ev_istore_n rfl rfl   H.2))))))))))
theorem w254_18 {X : gv_X} {d : Nat} {G : gv_Sh} {A : Nat → Nat → Nat} {j : Nat → Nat → Int64} {cc : gv_Rs} {r : gv_O × gv_S} {l1 : Nat} (hp263 : oX12 G 263) (H : (l1 < 2147483648) ∧ (((8 ≤ l1) → r = (.inl none, (G, (mI A, j), cc))) ∧ ((l1 < 8) → (l1 < 8) ∧ ((l1 < 8) ∧ (Ev X (d + 0) gvm_254 18 [some (.ref 263), some (.int (nI (l1 + 1)))] [] (G, (mI (gu A 272 l1 (A 271 l1)), j), cc) r))))) : Ev X (d + 0) gvm_254 18 [some (.ref 263), some (.int (nI l1))] [] (G, (mI A, j), cc) r :=
  (ev_iload_n rfl rfl   (en_bipush rfl rfl   (en_ic_ge rfl H.1 (by decide) (fun c1 => (ev_vret rfl (H.2.1 c1))) (fun c1 => (ev_aload_n rfl rfl   (ev_getP rfl rfl (oX12_k hp263) (oX12_18 hp263)   (ev_iload_n rfl rfl   (ev_aload_n rfl rfl   (ev_getP rfl rfl (oX12_k hp263) (oX12_17 hp263)   (ev_iload_n rfl rfl   (en_iald rfl (oX12_17c hp263) (by decide) (H.2.2 c1).1 rfl (en_iast rfl (oX12_18c hp263) (by decide) (H.2.2 c1).2.1  (en_iinc rfl rfl rfl rfl   (ev_goto rfl (H.2.2 c1).2.2))))))))))))))
theorem r_keepsFirst {X : gv_X} {d : Nat} {G : gv_Sh} {A : Nat → Nat → Nat} {j : Nat → Nat → Int64} {cc : gv_Rs}  (hp263 : oX12 G 263) (p0 : A 263 23 < 2) : Ev X (d + 0) gvm_254 0 (gv_enter [.ref 263] 2) [] (G, (mI A, j), cc) (.inl none, (G, (mI (kWr A), j), cc)) := by
  have h1 : (gu (gu A 263 24 (A 263 19)) 263 25 (A 263 23)) 271 = A 271 := by rw [gu_row (by decide), gu_row (by decide)]
  have h2 : (gu (gu A 263 24 (A 263 19)) 263 25 (A 263 23)) 272 = A 272 := by rw [gu_row (by decide), gu_row (by decide)]
  have L : ∀ k, k ≤ 8 → Ev X (d + 0) gvm_254 18 [some (.ref 263), some (.int (nI k))] [] (G, (mI (gw (gu (gu A 263 24 (A 263 19)) 263 25 (A 263 23)) 272 (cpN (A 271) (A 272) k)), j), cc) (.inl none, (G, (mI (kWr A), j), cc)) := by
    refine up_ind 8 ?_ ?_
    · refine w254_18 hp263  ⟨by omega, ⟨fun c1 => ?_, fun c1 => ⟨by omega, ⟨by omega, ?_⟩⟩⟩⟩
      · rfl
      · omega
    · intro k hk ih
      refine w254_18 hp263  ⟨by omega, ⟨fun c1 => ?_, fun c1 => ⟨by omega, ⟨by omega, ?_⟩⟩⟩⟩
      · omega
      · have e : gw (gu (gu A 263 24 (A 263 19)) 263 25 (A 263 23)) 272 (cpN (A 271) (A 272) k) 271 k = A 271 k := by rw [gw_row (by decide), h1]
        rw [e, cpN_s]
        exact ih
  refine w254 hp263  ⟨by (first | omega | (show A 263 23 < 2; omega)), ?_⟩
  have h := L 0 (by omega)
  rw [cpN_0, ← h2, gw_self] at h
  exact h
theorem w255 {X : gv_X} {d : Nat} {G : gv_Sh} {A : Nat → Nat → Nat} {j : Nat → Nat → Int64} {cc : gv_Rs} {r : gv_O × gv_S} {b : Nat} (hp263 : oX12 G 263) (H : ((A 263 19) < 4294967296) ∧ (((A 263 24) < 4294967296) ∧ (((¬ (A 263 19) = (A 263 24)) → Ev X (d + 0) gvm_255 30 [some (.ref 263), some (.int (nI b)), some (.int (nI 1)), some (.int (nI 0))] [] (G, (mI A, j), cc) r) ∧ (((A 263 19) = (A 263 24)) → ((A 263 23) < 4294967296) ∧ (((A 263 25) < 4294967296) ∧ ((((A 263 23) = (A 263 25)) → Ev X (d + 0) gvm_255 30 [some (.ref 263), some (.int (nI b)), some (.int (nI 0)), some (.int (nI 0))] [] (G, (mI A, j), cc) r) ∧ ((¬ (A 263 23) = (A 263 25)) → Ev X (d + 0) gvm_255 30 [some (.ref 263), some (.int (nI b)), some (.int (nI 1)), some (.int (nI 0))] [] (G, (mI A, j), cc) r))))))) : Ev X (d + 0) gvm_255 0 (gv_enter [.ref 263, .int (nI b)] 4) [] (G, (mI A, j), cc) r :=
  (ev_aload_n rfl rfl   (en_getI rfl rfl (oX12_k hp263) rfl   (ev_aload_n rfl rfl   (en_getI rfl rfl (oX12_k hp263) rfl   (en_ic_ne rfl H.1 H.2.1 (fun c1 => (en_iconst rfl rfl   (ev_goto rfl (ev_istore_n rfl rfl   (en_iconst rfl rfl   (ev_istore_n rfl rfl   (H.2.2.1 c1))))))) (fun c1 => (ev_aload_n rfl rfl   (en_getZ rfl rfl (oX12_k hp263) rfl   (ev_aload_n rfl rfl   (en_getZ rfl rfl (oX12_k hp263) rfl   (en_ic_eq rfl (H.2.2.2 c1).1 (H.2.2.2 c1).2.1 (fun c2 => (en_iconst rfl rfl   (ev_istore_n rfl rfl   (en_iconst rfl rfl   (ev_istore_n rfl rfl   ((H.2.2.2 c1).2.2.1 c2)))))) (fun c2 => (en_iconst rfl rfl   (ev_goto rfl (ev_istore_n rfl rfl   (en_iconst rfl rfl   (ev_istore_n rfl rfl   ((H.2.2.2 c1).2.2.2 c2))))))))))))))))))
theorem w255_30 {X : gv_X} {d : Nat} {G : gv_Sh} {A : Nat → Nat → Nat} {j : Nat → Nat → Int64} {cc : gv_Rs} {r : gv_O × gv_S} {b : Nat} {l2 : Nat} {l3 : Nat} (hp263 : oX12 G 263) (H : (l3 < 2147483648) ∧ (((8 ≤ l3) → ((nI l2) = 0 ∨ (nI l2) = 1) ∧ r = (.inl (some (.int (nI l2))), (G, (mI A, j), cc))) ∧ ((l3 < 8) → (l2 < 4294967296) ∧ (((¬ l2 = 0) → Ev X (d + 0) gvm_255 30 [some (.ref 263), some (.int (nI b)), some (.int (nI 1)), some (.int (nI (l3 + 1)))] [] (G, (mI A, j), cc) r) ∧ ((l2 = 0) → ((l3 + b) < 2147483648) ∧ ((((l3 + b) % 8) < 8) ∧ ((l3 < 8) ∧ (((A 272 ((l3 + b) % 8)) < 4294967296) ∧ (((A 271 l3) < 4294967296) ∧ ((((A 272 ((l3 + b) % 8)) = (A 271 l3)) → Ev X (d + 0) gvm_255 30 [some (.ref 263), some (.int (nI b)), some (.int (nI 0)), some (.int (nI (l3 + 1)))] [] (G, (mI A, j), cc) r) ∧ ((¬ (A 272 ((l3 + b) % 8)) = (A 271 l3)) → Ev X (d + 0) gvm_255 30 [some (.ref 263), some (.int (nI b)), some (.int (nI 1)), some (.int (nI (l3 + 1)))] [] (G, (mI A, j), cc) r))))))))))) : Ev X (d + 0) gvm_255 30 [some (.ref 263), some (.int (nI b)), some (.int (nI l2)), some (.int (nI l3))] [] (G, (mI A, j), cc) r :=
  (ev_iload_n rfl rfl   (en_bipush rfl rfl   (en_ic_ge rfl H.1 (by decide) (fun c1 => (ev_iload_n rfl rfl   (ev_iretz rfl rfl (H.2.1 c1).1 (H.2.1 c1).2))) (fun c1 => (ev_iload_n rfl rfl   (en_if_ne rfl (H.2.2 c1).1 (fun c2 => (en_iconst rfl rfl   (ev_goto rfl (ev_istore_n rfl rfl   (en_iinc rfl rfl rfl rfl   (ev_goto rfl ((H.2.2 c1).2.1 c2))))))) (fun c2 => (ev_aload_n rfl rfl   (ev_getP rfl rfl (oX12_k hp263) (oX12_18 hp263)   (ev_iload_n rfl rfl   (ev_iload_n rfl rfl   (en_iadd rfl   (en_bipush rfl rfl   (en_irem rfl ((H.2.2 c1).2.2 c2).1 (by decide) (by decide)  (en_iald rfl (oX12_18c hp263) (by decide) ((H.2.2 c1).2.2 c2).2.1 rfl (ev_aload_n rfl rfl   (ev_getP rfl rfl (oX12_k hp263) (oX12_17 hp263)   (ev_iload_n rfl rfl   (en_iald rfl (oX12_17c hp263) (by decide) ((H.2.2 c1).2.2 c2).2.2.1 rfl (en_ic_eq rfl ((H.2.2 c1).2.2 c2).2.2.2.1 ((H.2.2 c1).2.2 c2).2.2.2.2.1 (fun c3 => (en_iconst rfl rfl   (ev_istore_n rfl rfl   (en_iinc rfl rfl rfl rfl   (ev_goto rfl (((H.2.2 c1).2.2 c2).2.2.2.2.2.1 c3)))))) (fun c3 => (en_iconst rfl rfl   (ev_goto rfl (ev_istore_n rfl rfl   (en_iinc rfl rfl rfl rfl   (ev_goto rfl (((H.2.2 c1).2.2 c2).2.2.2.2.2.2 c3)))))))))))))))))))))))))))
theorem r_isUnlike {X : gv_X} {d : Nat} {G : gv_Sh} {A : Nat → Nat → Nat} {j : Nat → Nat → Int64} {cc : gv_Rs} {b : Nat} (hp263 : oX12 G 263) (p0 : okU (mRd A)) (p1 : okU (kRd A)) (p2 : b ≤ 6) : Ev X (d + 0) gvm_255 0 (gv_enter [.ref 263, .int (nI b)] 4) [] (G, (mI A, j), cc) (.inl (some (.int (zo (unl b (mRd A) (kRd A))))), (G, (mI A, j), cc)) := by
  obtain ⟨a1, a2, a3⟩ := p0
  obtain ⟨b1, b2, b3⟩ := p1
  simp only [mRd, kRd] at a1 a2 a3 b1 b2 b3
  have hT : ∀ y : Bool, y.toNat < 4294967296 := fun y => by cases y <;> decide
  have hZ : ∀ y : Bool, nI y.toNat = 0 ∨ nI y.toNat = 1 := fun y => by cases y; exact Or.inl rfl; exact Or.inr rfl
  have L : ∀ k, k ≤ 8 → Ev X (d + 0) gvm_255 30 [some (.ref 263), some (.int (nI b)), some (.int (nI (unlN b (mRd A) (kRd A) k).toNat)), some (.int (nI k))] [] (G, (mI A, j), cc) (.inl (some (.int (zo (unl b (mRd A) (kRd A))))), (G, (mI A, j), cc)) := by
    refine up_ind 8 ?_ ?_
    · refine w255_30 hp263  ⟨by (first | omega | exact hT _ | exact hZ _), ⟨fun c1 => ⟨by (first | omega | exact hT _ | exact hZ _), ?_⟩, fun c1 => ⟨by (first | omega | exact hT _ | exact hZ _), ⟨fun c2 => ?_, fun c2 => ⟨by (first | omega | exact hT _ | exact hZ _), ⟨by (first | omega | exact hT _ | exact hZ _), ⟨by (first | omega | exact hT _ | exact hZ _), ⟨by (first | omega | exact hT _ | exact hZ _), ⟨by (first | omega | exact hT _ | exact hZ _), ⟨fun c3 => ?_, fun c3 => ?_⟩⟩⟩⟩⟩⟩⟩⟩⟩⟩
      · rw [zo_n]; rfl
      all_goals omega
    · intro k hk ih
      have a4 := a3 k hk
      have b4 := b3 ((k + b) % 8) (by omega)
      have hs : unlN b (mRd A) (kRd A) (k + 1) = !(!(unlN b (mRd A) (kRd A) k) && decide (A 272 ((k + b) % 8) = A 271 k)) := unlN_s _ _ _ _
      refine w255_30 hp263  ⟨by (first | omega | exact hT _ | exact hZ _), ⟨fun c1 => ⟨by (first | omega | exact hT _ | exact hZ _), ?_⟩, fun c1 => ⟨by (first | omega | exact hT _ | exact hZ _), ⟨fun c2 => ?_, fun c2 => ⟨by (first | omega | exact hT _ | exact hZ _), ⟨by (first | omega | exact hT _ | exact hZ _), ⟨by (first | omega | exact hT _ | exact hZ _), ⟨by (first | omega | exact hT _ | exact hZ _), ⟨by (first | omega | exact hT _ | exact hZ _), ⟨fun c3 => ?_, fun c3 => ?_⟩⟩⟩⟩⟩⟩⟩⟩⟩⟩
      · omega
      · have e : unlN b (mRd A) (kRd A) k = true := by
          cases h : unlN b (mRd A) (kRd A) k
          · rw [h] at c2; exact absurd rfl c2
          · rfl
        rw [e] at hs
        rw [hs] at ih; exact ih
      · have e : unlN b (mRd A) (kRd A) k = false := by
          cases h : unlN b (mRd A) (kRd A) k
          · rfl
          · rw [h] at c2; cases c2
        rw [e, c3] at hs
        simp only [decide_true, Bool.not_false, Bool.and_true, Bool.not_true] at hs
        rw [hs] at ih; exact ih
      · have e : unlN b (mRd A) (kRd A) k = false := by
          cases h : unlN b (mRd A) (kRd A) k
          · rfl
          · rw [h] at c2; cases c2
        rw [e, decide_eq_false c3] at hs
        rw [hs] at ih; exact ih
  have h0 := L 0 (by omega)
  refine w255 hp263  ⟨by omega, ⟨by omega, ⟨fun c1 => ?_, fun c1 => ⟨by omega, ⟨by omega, ⟨fun c2 => ?_, fun c2 => ?_⟩⟩⟩⟩⟩⟩
  · have e : unlN b (mRd A) (kRd A) 0 = true := by
      have h : decide ((mRd A).1 = (kRd A).1) = false := decide_eq_false c1
      rw [unlN_0, h]; rfl
    rw [e] at h0; exact h0
  · have e : unlN b (mRd A) (kRd A) 0 = false := by
      have h : decide ((mRd A).1 = (kRd A).1) = true := decide_eq_true c1
      have h2 : decide ((mRd A).2.2.2.2.1 = (kRd A).2.2.2.2.1) = true := decide_eq_true c2
      rw [unlN_0, h, h2]; rfl
    rw [e] at h0; exact h0
  · have e : unlN b (mRd A) (kRd A) 0 = true := by
      have h2 : decide ((mRd A).2.2.2.2.1 = (kRd A).2.2.2.2.1) = false := decide_eq_false c2
      rw [unlN_0, h2, Bool.and_false]; rfl
    rw [e] at h0; exact h0
