/-! a trait in a state; the witness -/
theorem ev_eqM {X : gv_X} {d : Nat} {M : gv_Mt} {pc : Nat} {lo : gv_L} {st : List Value} {S : gv_S} {o : gv_O} {G : gv_Sh} {A B : Nat → Nat → Nat} {j : Nat → Nat → Int64} {cc : gv_Rs} (q : A = B) (h : Ev X d M pc lo st S (o, (G, (mI B, j), cc))) : Ev X d M pc lo st S (o, (G, (mI A, j), cc)) := by rw [q]; exact h
theorem okM_op' {o : Nat} {R : Nat → Nat} {p : Nat} {c : Mc} (hR : okW R) (hp : p < 8) (h : okM (mSk0 c)) : okM (mOp o R p c) := by
  have hb := okW_o hR hp
  exact okM_run h (fun x _ hx => (okW_m hR hp (by omega)).2)
theorem one {A A2 A3 : Nat → Nat → Nat} {p s mo ba cl b : Nat} (q2 : A2 = mWr A (lkM A s mo ba cl b)) (q3 : A3 = mWr A2 (mOp 0 (A2 264) p (mRd A2))) (hR : okW (A 264)) (hp : p < 8) (h1 : mo ≤ 1) (h2 : ba ≤ 6) (h3 : ba % 2 = 0) (h4 : cl ≤ 7) :
    okW (A2 264) ∧ okM (mSk0 (mRd A2)) ∧ okM (mRd A3) ∧ eqM (mRd A3) (mOp 0 (A 264) p (stM s mo ba cl b)) ∧ frS A A3 ∧ A3 264 = A 264 := by
  have e2 : A2 264 = A 264 := by rw [q2, mWr_264]
  have m2 : mRd A2 = lkM A s mo ba cl b := by rw [q2, mRd_Wr]
  have e3 : A3 264 = A 264 := by rw [q3, mWr_264, e2]
  have m3 : mRd A3 = mOp 0 (A 264) p (lkM A s mo ba cl b) := by rw [q3, mRd_Wr, e2, m2]
  have k2 := lkM_ok (A := A) (s := s) (b := b) h1 h2 h3 h4
  refine ⟨e2 ▸ hR, m2 ▸ k2, m3 ▸ okM_op' hR hp k2, ?_, ?_, e3⟩
  · rw [m3]; exact eqM_op (lkM_eq A s mo ba cl b)
  · rw [q3, q2]; exact frS_tr (frS_mWr _ _) (frS_mWr _ _)
theorem two {A A2 A3 A4 A5 A6 : Nat → Nat → Nat} {p s mo ba cl b mo' ba' cl' b' : Nat} (q2 : A2 = mWr A (lkM A s mo ba cl b)) (q3 : A3 = mWr A2 (mOp 0 (A2 264) p (mRd A2))) (q4 : A4 = kWr A3) (q5 : A5 = mWr A4 (lkM A4 s mo' ba' cl' b')) (q6 : A6 = mWr A5 (mOp 0 (A5 264) p (mRd A5)))
    (hR : okW (A 264)) (hp : p < 8) (h1 : mo ≤ 1) (h2 : ba ≤ 6) (h3 : ba % 2 = 0) (h4 : cl ≤ 7) (h1' : mo' ≤ 1) (h2' : ba' ≤ 6) (h3' : ba' % 2 = 0) (h4' : cl' ≤ 7) :
    okW (A2 264) ∧ okM (mSk0 (mRd A2)) ∧ A3 263 23 < 2 ∧ okW (A5 264) ∧ okM (mSk0 (mRd A5)) ∧ okU (mRd A6) ∧ okU (kRd A6) ∧ (∀ c, unl c (mRd A6) (kRd A6) = unl c (mOp 0 (A 264) p (stM s mo' ba' cl' b')) (mOp 0 (A 264) p (stM s mo ba cl b))) ∧ frS A A6 ∧ A6 264 = A 264 := by
  obtain ⟨a1, a2, a3, a4, a5, a6⟩ := one q2 q3 hR hp h1 h2 h3 h4
  have e4 : A4 264 = A 264 := by rw [q4, kWr_264, a6]
  obtain ⟨b1, b2, b3, b4, b5, b6⟩ := one q5 q6 (e4 ▸ hR) hp h1' h2' h3' h4'
  have k6 : kRd A6 = kRd A4 := by rw [q6, mWr_k, q5, mWr_k]
  have k4 : eqU (kRd A4) (mRd A3) := by rw [q4]; exact kWr_k A3
  have k5 : eqU (kRd A6) (mRd A3) := k6 ▸ k4
  refine ⟨a1, a2, Nat.lt_succ_of_le a3.2.2.2.2.1, b1, b2, okU_M b3, okU_eq k5 (okU_M a3), fun c => ?_, ?_, b6.trans e4⟩
  · refine unl_eqU (eqM_U (e4 ▸ b4)) ?_
    exact ⟨k5.1.trans a4.1, k5.2.1.trans a4.2.2.2.2.1, fun k hk => (k5.2.2 k hk).trans (a4.2.2.2.2.2 k hk)⟩
  · exact frS_tr a5 (frS_tr (q4 ▸ kWr_s A3) b5)
theorem w251 {X : gv_X} {d : Nat} {G : gv_Sh} {A : Nat → Nat → Nat} {j : Nat → Nat → Int64} {cc : gv_Rs} {r : gv_O × gv_S} {s : Nat} {A1 : Nat → Nat → Nat} (hp263 : oX12 G 263) (q1 : A1 = (mWr A (lkM A s (s / 4 % 2) (2 * (s / 8 % 4)) 0 (bif false then 2 * (s / 8 % 4) else 0)))) (H : (s < 2147483648) ∧ ((s < 2147483648) ∧ ((s < 2147483648) ∧ (r = (.inl none, (G, (mI A1, j), cc)))))) : Ev X (d + 2) gvm_251 0 (gv_enter [.ref 263, .int (nI s)] 2) [] (G, (mI A, j), cc) r :=
  (ev_aload_n rfl rfl   (ev_iload_n rfl rfl   (ev_iload_n rfl rfl   (ev_stat rfl rfl rfl rfl rfl rfl rfl rfl (r_modeOf (s := s) (A := A) H.1 ) (ev_iload_n rfl rfl   (ev_stat rfl rfl rfl rfl rfl rfl rfl rfl (r_baseOf (s := s) (A := A) H.2.1 ) (en_iconst rfl rfl   (en_iconst rfl rfl   (ev_virt rfl rfl rfl rfl rfl (oX12_k hp263) rfl rfl rfl (ev_eqM q1 (r_isLike (s := s) (mo := (s / 4 % 2)) (ba := (2 * (s / 8 % 4))) (cl := 0) (sh := false) (A := A) hp263 H.2.2.1 )) (ev_vret rfl H.2.2.2))))))))))
theorem r_isNow {X : gv_X} {d : Nat} {G : gv_Sh} {A : Nat → Nat → Nat} {j : Nat → Nat → Int64} {cc : gv_Rs} {s : Nat} (hp263 : oX12 G 263) (p0 : s < 2147483648) : Ev X (d + 2) gvm_251 0 (gv_enter [.ref 263, .int (nI s)] 2) [] (G, (mI A, j), cc) (.inl none, (G, (mI (mWr A (lkM A s (s / 4 % 2) (2 * (s / 8 % 4)) 0 0)), j), cc)) := by
  refine w251 hp263 rfl ⟨by omega, by omega, by omega, rfl⟩
theorem w253 {X : gv_X} {d : Nat} {G : gv_Sh} {A : Nat → Nat → Nat} {j : Nat → Nat → Int64} {cc : gv_Rs} {r : gv_O × gv_S} {p : Nat} {s : Nat} {A2 : Nat → Nat → Nat} {A3 : Nat → Nat → Nat} (hp263 : oX12 G 263) (q2 : A2 = (mWr A (lkM A s (s / 4 % 2) (2 * (s / 8 % 4)) 0 0))) (q3 : A3 = (mWr A2 (mOp 0 (A2 264) p (mRd A2)))) (H : (s < 2147483648) ∧ ((okW (A 264)) ∧ ((p < 8) ∧ (((s / 4 % 2) < 4294967296) ∧ ((((decide (A 264 (30 + 9 * p + 1) = 1) && decide ((s / 4 % 2) = 0)) = false) → (s < 2147483648) ∧ ((okW (A2 264)) ∧ ((okM (mSk0 (mRd A2))) ∧ ((p < 8) ∧ ((s < 2147483648) ∧ (((A3 263 20) < 4294967296) ∧ (((s / 4 % 2) < 4294967296) ∧ (((¬ (A3 263 20) = (s / 4 % 2)) → r = (.inl (some (.int (nI 1))), (G, (mI A3, j), cc))) ∧ (((A3 263 20) = (s / 4 % 2)) → (s < 2147483648) ∧ (((A3 263 21) < 4294967296) ∧ (((2 * (s / 8 % 4)) < 4294967296) ∧ ((((A3 263 21) = (2 * (s / 8 % 4))) → r = (.inl (some (.int (nI 0))), (G, (mI A3, j), cc))) ∧ ((¬ (A3 263 21) = (2 * (s / 8 % 4))) → r = (.inl (some (.int (nI 1))), (G, (mI A3, j), cc))))))))))))))) ∧ (((decide (A 264 (30 + 9 * p + 1) = 1) && decide ((s / 4 % 2) = 0)) = true) → r = (.inl (some (.int (nI 0))), (G, (mI A, j), cc)))))))) : Ev X (d + 4) gvm_253 0 (gv_enter [.ref 263, .int (nI p), .int (nI s)] 3) [] (G, (mI A, j), cc) r :=
  (ev_aload_n rfl rfl   (ev_iload_n rfl rfl   (ev_iload_n rfl rfl   (ev_stat rfl rfl rfl rfl rfl rfl rfl rfl (r_modeOf (s := s) (A := A) H.1 ) (ev_virt rfl rfl rfl rfl rfl (oX12_k hp263) rfl rfl rfl (r_trapsIn (p := p) (mo := (s / 4 % 2)) (A := A) hp263 H.2.1 H.2.2.1 H.2.2.2.1 ) (ev_if_eq_zo rfl  (fun c1 => (ev_aload_n rfl rfl   (ev_iload_n rfl rfl   (ev_virt rfl rfl rfl rfl rfl (oX12_k hp263) rfl rfl rfl (ev_eqM q2 (r_isNow (s := s) (A := A) hp263 (H.2.2.2.2.1 c1).1 )) (ev_aload_n rfl rfl   (ev_iload_n rfl rfl   (ev_virt rfl rfl rfl rfl rfl (oX12_k hp263) rfl rfl rfl (ev_eqM q3 (r_does (p := p) (A := A2) hp263 (H.2.2.2.2.1 c1).2.1 (H.2.2.2.2.1 c1).2.2.1 (H.2.2.2.2.1 c1).2.2.2.1 )) (ev_aload_n rfl rfl   (en_getI rfl rfl (oX12_k hp263) rfl   (ev_iload_n rfl rfl   (ev_stat rfl rfl rfl rfl rfl rfl rfl rfl (r_modeOf (s := s) (A := A3) (H.2.2.2.2.1 c1).2.2.2.2.1 ) (en_ic_ne rfl (H.2.2.2.2.1 c1).2.2.2.2.2.1 (H.2.2.2.2.1 c1).2.2.2.2.2.2.1 (fun c4 => (en_iconst rfl rfl   (ev_goto rfl (ev_iretz rfl rfl (Or.inr rfl) ((H.2.2.2.2.1 c1).2.2.2.2.2.2.2.1 c4))))) (fun c4 => (ev_aload_n rfl rfl   (en_getI rfl rfl (oX12_k hp263) rfl   (ev_iload_n rfl rfl   (ev_stat rfl rfl rfl rfl rfl rfl rfl rfl (r_baseOf (s := s) (A := A3) ((H.2.2.2.2.1 c1).2.2.2.2.2.2.2.2 c4).1 ) (en_ic_eq rfl ((H.2.2.2.2.1 c1).2.2.2.2.2.2.2.2 c4).2.1 ((H.2.2.2.2.1 c1).2.2.2.2.2.2.2.2 c4).2.2.1 (fun c5 => (en_iconst rfl rfl   (ev_iretz rfl rfl (Or.inl rfl) (((H.2.2.2.2.1 c1).2.2.2.2.2.2.2.2 c4).2.2.2.1 c5)))) (fun c5 => (en_iconst rfl rfl   (ev_goto rfl (ev_iretz rfl rfl (Or.inr rfl) (((H.2.2.2.2.1 c1).2.2.2.2.2.2.2.2 c4).2.2.2.2 c5))))))))))))))))))))))) (fun c1 => (en_iconst rfl rfl   (ev_iretz rfl rfl (Or.inl rfl) (H.2.2.2.2.2 c1))))))))))
theorem r_isControlIn {X : gv_X} {d : Nat} {G : gv_Sh} {A : Nat → Nat → Nat} {j : Nat → Nat → Int64} {cc : gv_Rs} {p : Nat} {s : Nat} (hp263 : oX12 G 263) (p0 : okW (A 264)) (p1 : p < 8) (p2 : s < 512) : ∃ A1 : Nat → Nat → Nat, Ev X (d + 4) gvm_253 0 (gv_enter [.ref 263, .int (nI p), .int (nI s)] 3) [] (G, (mI A, j), cc) (.inl (some (.int (zo (tr0 (A 264) p s)))), (G, (mI A1, j), cc)) ∧ (frS A A1) := by
  obtain ⟨A2, q2⟩ : ∃ Zz, Zz = (mWr A (lkM A s (s / 4 % 2) (2 * (s / 8 % 4)) 0 0)) := ⟨_, rfl⟩
  obtain ⟨A3, q3⟩ : ∃ Zz, Zz = (mWr A2 (mOp 0 (A2 264) p (mRd A2))) := ⟨_, rfl⟩
  obtain ⟨a1, a2, a3, a4, a5, a6⟩ := one q2 q3 p0 p1 (by omega) (by omega) (by omega) (by omega)
  have hm := a3.2.1
  have hb := a3.2.2.1.1
  have h3 : (mRd A3).2.1 = A3 263 20 := rfl
  have h4 : (mRd A3).2.2.1 = A3 263 21 := rfl
  have e1 := a4.2.1
  have e2 := a4.2.2.1
  rw [h3] at e1 hm
  rw [h4] at e2 hb
  cases ht : trp (A 264) p (s / 4 % 2) with
  | true =>
    have hr : tr0 (A 264) p s = false := by unfold tr0; rw [ht]; rfl
    rw [hr]
    refine ⟨A, ?_, frS_rf A⟩
    refine w253 hp263 q2 q3 ⟨by (first | omega | assumption), ⟨by (first | omega | assumption), ⟨by (first | omega | assumption), ⟨by (first | omega | assumption), ⟨fun c1 => ⟨by (first | omega | assumption), ⟨by (first | omega | assumption), ⟨by (first | omega | assumption), ⟨by (first | omega | assumption), ⟨by (first | omega | assumption), ⟨by (first | omega | assumption), ⟨by (first | omega | assumption), ⟨fun c4 => ?_, fun c4 => ⟨by (first | omega | assumption), ⟨by (first | omega | assumption), ⟨by (first | omega | assumption), ⟨fun c5 => ?_, fun c5 => ?_⟩⟩⟩⟩⟩⟩⟩⟩⟩⟩⟩⟩, fun c1 => ?_⟩⟩⟩⟩⟩
    · exact absurd (ht.symm.trans c1) (by decide)
    · exact absurd (ht.symm.trans c1) (by decide)
    · exact absurd (ht.symm.trans c1) (by decide)
    · rfl
  | false =>
    have hr : tr0 (A 264) p s = (!decide (A3 263 20 = s / 4 % 2) || !decide (A3 263 21 = 2 * (s / 8 % 4))) := by unfold tr0; rw [ht, e1, e2]; rfl
    rw [hr]
    refine ⟨A3, ?_, a5⟩
    refine w253 hp263 q2 q3 ⟨by (first | omega | assumption), ⟨by (first | omega | assumption), ⟨by (first | omega | assumption), ⟨by (first | omega | assumption), ⟨fun c1 => ⟨by (first | omega | assumption), ⟨by (first | omega | assumption), ⟨by (first | omega | assumption), ⟨by (first | omega | assumption), ⟨by (first | omega | assumption), ⟨by (first | omega | assumption), ⟨by (first | omega | assumption), ⟨fun c4 => ?_, fun c4 => ⟨by (first | omega | assumption), ⟨by (first | omega | assumption), ⟨by (first | omega | assumption), ⟨fun c5 => ?_, fun c5 => ?_⟩⟩⟩⟩⟩⟩⟩⟩⟩⟩⟩⟩, fun c1 => ?_⟩⟩⟩⟩⟩
    · exact rz1 (by simp [c4])
    · exact rz0 (by simp [c4, c5])
    · exact rz1 (by simp [c4, c5])
    · exact absurd (ht.symm.trans c1) (by decide)
theorem w256 {X : gv_X} {d : Nat} {G : gv_Sh} {A : Nat → Nat → Nat} {j : Nat → Nat → Int64} {cc : gv_Rs} {r : gv_O × gv_S} {p : Nat} {s : Nat} {A3 : Nat → Nat → Nat} {A4 : Nat → Nat → Nat} {A5 : Nat → Nat → Nat} {A6 : Nat → Nat → Nat} {A7 : Nat → Nat → Nat} (hp263 : oX12 G 263) (q3 : A3 = (mWr A (lkM A s (s / 4 % 2) (2 * (s / 8 % 4)) 0 0))) (q4 : A4 = (mWr A3 (mOp 0 (A3 264) p (mRd A3)))) (q5 : A5 = (kWr A4)) (q6 : A6 = (mWr A5 (lkM A5 s 1 (2 * (s / 8 % 4)) 0 (bif false then 2 * (s / 8 % 4) else 0)))) (q7 : A7 = (mWr A6 (mOp 0 (A6 264) p (mRd A6)))) (H : (s < 2147483648) ∧ (((s / 4 % 2) < 4294967296) ∧ ((((s / 4 % 2) = 1) → r = (.inl (some (.int (nI 0))), (G, (mI A, j), cc))) ∧ ((¬ (s / 4 % 2) = 1) → (okW (A 264)) ∧ ((p < 8) ∧ ((((decide (A 264 (30 + 9 * p + 1) = 1) && decide (0 = 0)) = false) → (s < 2147483648) ∧ ((okW (A3 264)) ∧ ((okM (mSk0 (mRd A3))) ∧ ((p < 8) ∧ ((A4 263 23 < 2) ∧ ((s < 2147483648) ∧ ((s < 2147483648) ∧ ((okW (A6 264)) ∧ ((okM (mSk0 (mRd A6))) ∧ ((p < 8) ∧ ((okU (mRd A7)) ∧ ((okU (kRd A7)) ∧ (r = (.inl (some (.int (zo (unl 0 (mRd A7) (kRd A7))))), (G, (mI A7, j), cc))))))))))))))) ∧ (((decide (A 264 (30 + 9 * p + 1) = 1) && decide (0 = 0)) = true) → r = (.inl (some (.int (nI 0))), (G, (mI A, j), cc))))))))) : Ev X (d + 4) gvm_256 0 (gv_enter [.ref 263, .int (nI p), .int (nI s)] 3) [] (G, (mI A, j), cc) r :=
  (ev_iload_n rfl rfl   (ev_stat rfl rfl rfl rfl rfl rfl rfl rfl (r_modeOf (s := s) (A := A) H.1 ) (en_iconst rfl rfl   (en_ic_eq rfl H.2.1 (by decide) (fun c1 => (en_iconst rfl rfl   (ev_iretz rfl rfl (Or.inl rfl) (H.2.2.1 c1)))) (fun c1 => (ev_aload_n rfl rfl   (ev_iload_n rfl rfl   (en_iconst rfl rfl   (ev_virt rfl rfl rfl rfl rfl (oX12_k hp263) rfl rfl rfl (r_trapsIn (p := p) (mo := 0) (A := A) hp263 (H.2.2.2 c1).1 (H.2.2.2 c1).2.1 (by decide) ) (ev_if_eq_zo rfl  (fun c2 => (ev_aload_n rfl rfl   (ev_iload_n rfl rfl   (ev_virt rfl rfl rfl rfl rfl (oX12_k hp263) rfl rfl rfl (ev_eqM q3 (r_isNow (s := s) (A := A) hp263 ((H.2.2.2 c1).2.2.1 c2).1 )) (ev_aload_n rfl rfl   (ev_iload_n rfl rfl   (ev_virt rfl rfl rfl rfl rfl (oX12_k hp263) rfl rfl rfl (ev_eqM q4 (r_does (p := p) (A := A3) hp263 ((H.2.2.2 c1).2.2.1 c2).2.1 ((H.2.2.2 c1).2.2.1 c2).2.2.1 ((H.2.2.2 c1).2.2.1 c2).2.2.2.1 )) (ev_aload_n rfl rfl   (ev_virt rfl rfl rfl rfl rfl (oX12_k hp263) rfl rfl rfl (ev_eqM q5 (r_keepsFirst (A := A4) hp263 ((H.2.2.2 c1).2.2.1 c2).2.2.2.2.1 )) (ev_aload_n rfl rfl   (ev_iload_n rfl rfl   (en_iconst rfl rfl   (ev_iload_n rfl rfl   (ev_stat rfl rfl rfl rfl rfl rfl rfl rfl (r_baseOf (s := s) (A := A5) ((H.2.2.2 c1).2.2.1 c2).2.2.2.2.2.1 ) (en_iconst rfl rfl   (en_iconst rfl rfl   (ev_virt rfl rfl rfl rfl rfl (oX12_k hp263) rfl rfl rfl (ev_eqM q6 (r_isLike (s := s) (mo := 1) (ba := (2 * (s / 8 % 4))) (cl := 0) (sh := false) (A := A5) hp263 ((H.2.2.2 c1).2.2.1 c2).2.2.2.2.2.2.1 )) (ev_aload_n rfl rfl   (ev_iload_n rfl rfl   (ev_virt rfl rfl rfl rfl rfl (oX12_k hp263) rfl rfl rfl (ev_eqM q7 (r_does (p := p) (A := A6) hp263 ((H.2.2.2 c1).2.2.1 c2).2.2.2.2.2.2.2.1 ((H.2.2.2 c1).2.2.1 c2).2.2.2.2.2.2.2.2.1 ((H.2.2.2 c1).2.2.1 c2).2.2.2.2.2.2.2.2.2.1 )) (ev_aload_n rfl rfl   (en_iconst rfl rfl   (ev_virt rfl rfl rfl rfl rfl (oX12_k hp263) rfl rfl rfl (r_isUnlike (b := 0) (A := A7) hp263 ((H.2.2.2 c1).2.2.1 c2).2.2.2.2.2.2.2.2.2.2.1 ((H.2.2.2 c1).2.2.1 c2).2.2.2.2.2.2.2.2.2.2.2.1 (by decide) ) (ev_iretz rfl rfl (zo_b _) ((H.2.2.2 c1).2.2.1 c2).2.2.2.2.2.2.2.2.2.2.2.2)))))))))))))))))))))))) (fun c2 => (en_iconst rfl rfl   (ev_iretz rfl rfl (Or.inl rfl) ((H.2.2.2 c1).2.2.2 c2))))))))))))))
theorem r_isModalIn {X : gv_X} {d : Nat} {G : gv_Sh} {A : Nat → Nat → Nat} {j : Nat → Nat → Int64} {cc : gv_Rs} {p : Nat} {s : Nat} (hp263 : oX12 G 263) (p0 : okW (A 264)) (p1 : p < 8) (p2 : s < 512) : ∃ A1 : Nat → Nat → Nat, Ev X (d + 4) gvm_256 0 (gv_enter [.ref 263, .int (nI p), .int (nI s)] 3) [] (G, (mI A, j), cc) (.inl (some (.int (zo (tr1 (A 264) p s)))), (G, (mI A1, j), cc)) ∧ (frS A A1) := by
  obtain ⟨A3, q3⟩ : ∃ Zz, Zz = (mWr A (lkM A s (s / 4 % 2) (2 * (s / 8 % 4)) 0 0)) := ⟨_, rfl⟩
  obtain ⟨A4, q4⟩ : ∃ Zz, Zz = (mWr A3 (mOp 0 (A3 264) p (mRd A3))) := ⟨_, rfl⟩
  obtain ⟨A5, q5⟩ : ∃ Zz, Zz = (kWr A4) := ⟨_, rfl⟩
  obtain ⟨A6, q6⟩ : ∃ Zz, Zz = (mWr A5 (lkM A5 s 1 (2 * (s / 8 % 4)) 0 (bif false then 2 * (s / 8 % 4) else 0))) := ⟨_, rfl⟩
  obtain ⟨A7, q7⟩ : ∃ Zz, Zz = (mWr A6 (mOp 0 (A6 264) p (mRd A6))) := ⟨_, rfl⟩
  obtain ⟨a1, a2, a3, a4, a5, a6, a7, a8, a9, a10⟩ := two q3 q4 q5 q6 q7 p0 p1 (by omega) (by omega) (by omega) (by omega) (by omega) (by omega) (by omega) (by omega)
  by_cases hm : s / 4 % 2 = 1
  · have hr : tr1 (A 264) p s = false := by unfold tr1; rw [decide_eq_true hm]; rfl
    rw [hr]
    refine ⟨A, ?_, frS_rf A⟩
    refine w256 hp263 q3 q4 q5 q6 q7 ⟨by (first | omega | assumption), ⟨by (first | omega | assumption), ⟨fun c1 => ?_, fun c1 => ⟨by (first | omega | assumption), ⟨by (first | omega | assumption), ⟨fun c2 => ⟨by (first | omega | assumption), ⟨by (first | omega | assumption), ⟨by (first | omega | assumption), ⟨by (first | omega | assumption), ⟨by (first | omega | assumption), ⟨by (first | omega | assumption), ⟨by (first | omega | assumption), ⟨by (first | omega | assumption), ⟨by (first | omega | assumption), ⟨by (first | omega | assumption), ⟨by (first | omega | assumption), ⟨by (first | omega | assumption), ?_⟩⟩⟩⟩⟩⟩⟩⟩⟩⟩⟩⟩, fun c2 => ?_⟩⟩⟩⟩⟩⟩
    · rfl
    · exact absurd hm c1
    · exact absurd hm c1
  · cases ht : trp (A 264) p 0 with
    | true =>
      have hr : tr1 (A 264) p s = false := by unfold tr1; rw [ht, Bool.not_true, Bool.false_and, Bool.and_false]
      rw [hr]
      refine ⟨A, ?_, frS_rf A⟩
      refine w256 hp263 q3 q4 q5 q6 q7 ⟨by (first | omega | assumption), ⟨by (first | omega | assumption), ⟨fun c1 => ?_, fun c1 => ⟨by (first | omega | assumption), ⟨by (first | omega | assumption), ⟨fun c2 => ⟨by (first | omega | assumption), ⟨by (first | omega | assumption), ⟨by (first | omega | assumption), ⟨by (first | omega | assumption), ⟨by (first | omega | assumption), ⟨by (first | omega | assumption), ⟨by (first | omega | assumption), ⟨by (first | omega | assumption), ⟨by (first | omega | assumption), ⟨by (first | omega | assumption), ⟨by (first | omega | assumption), ⟨by (first | omega | assumption), ?_⟩⟩⟩⟩⟩⟩⟩⟩⟩⟩⟩⟩, fun c2 => ?_⟩⟩⟩⟩⟩⟩
      · rfl
      · exact absurd (ht.symm.trans c2) (by decide)
      · rfl
    | false =>
      have hr : tr1 (A 264) p s = unl 0 (mRd A7) (kRd A7) := by unfold tr1; rw [ht, decide_eq_false hm, a8 0]; rfl
      rw [hr]
      refine ⟨A7, ?_, a9⟩
      refine w256 hp263 q3 q4 q5 q6 q7 ⟨by (first | omega | assumption), ⟨by (first | omega | assumption), ⟨fun c1 => ?_, fun c1 => ⟨by (first | omega | assumption), ⟨by (first | omega | assumption), ⟨fun c2 => ⟨by (first | omega | assumption), ⟨by (first | omega | assumption), ⟨by (first | omega | assumption), ⟨by (first | omega | assumption), ⟨by (first | omega | assumption), ⟨by (first | omega | assumption), ⟨by (first | omega | assumption), ⟨by (first | omega | assumption), ⟨by (first | omega | assumption), ⟨by (first | omega | assumption), ⟨by (first | omega | assumption), ⟨by (first | omega | assumption), ?_⟩⟩⟩⟩⟩⟩⟩⟩⟩⟩⟩⟩, fun c2 => ?_⟩⟩⟩⟩⟩⟩
      · exact absurd c1 hm
      · rfl
      · exact absurd (ht.symm.trans c2) (by decide)
theorem w257 {X : gv_X} {d : Nat} {G : gv_Sh} {A : Nat → Nat → Nat} {j : Nat → Nat → Int64} {cc : gv_Rs} {r : gv_O × gv_S} {p : Nat} {s : Nat} {A2 : Nat → Nat → Nat} {A3 : Nat → Nat → Nat} {A4 : Nat → Nat → Nat} {A5 : Nat → Nat → Nat} {A6 : Nat → Nat → Nat} (hp263 : oX12 G 263) (q2 : A2 = (mWr A (lkM A s (s / 4 % 2) (2 * (s / 8 % 4)) 0 0))) (q3 : A3 = (mWr A2 (mOp 0 (A2 264) p (mRd A2)))) (q4 : A4 = (kWr A3)) (q5 : A5 = (mWr A4 (lkM A4 s (s / 4 % 2) 0 0 (bif true then 2 * (s / 8 % 4) else 0)))) (q6 : A6 = (mWr A5 (mOp 0 (A5 264) p (mRd A5)))) (H : (s < 2147483648) ∧ ((okW (A 264)) ∧ ((p < 8) ∧ (((s / 4 % 2) < 4294967296) ∧ ((((decide (A 264 (30 + 9 * p + 1) = 1) && decide ((s / 4 % 2) = 0)) = false) → (s < 2147483648) ∧ ((okW (A2 264)) ∧ ((okM (mSk0 (mRd A2))) ∧ ((p < 8) ∧ ((A3 263 23 < 2) ∧ ((s < 2147483648) ∧ ((s < 2147483648) ∧ ((okW (A5 264)) ∧ ((okM (mSk0 (mRd A5))) ∧ ((p < 8) ∧ ((s < 2147483648) ∧ ((okU (mRd A6)) ∧ ((okU (kRd A6)) ∧ (((2 * (s / 8 % 4)) ≤ 6) ∧ (r = (.inl (some (.int (zo (unl (2 * (s / 8 % 4)) (mRd A6) (kRd A6))))), (G, (mI A6, j), cc))))))))))))))))) ∧ (((decide (A 264 (30 + 9 * p + 1) = 1) && decide ((s / 4 % 2) = 0)) = true) → r = (.inl (some (.int (nI 0))), (G, (mI A, j), cc)))))))) : Ev X (d + 4) gvm_257 0 (gv_enter [.ref 263, .int (nI p), .int (nI s)] 3) [] (G, (mI A, j), cc) r :=
  (ev_aload_n rfl rfl   (ev_iload_n rfl rfl   (ev_iload_n rfl rfl   (ev_stat rfl rfl rfl rfl rfl rfl rfl rfl (r_modeOf (s := s) (A := A) H.1 ) (ev_virt rfl rfl rfl rfl rfl (oX12_k hp263) rfl rfl rfl (r_trapsIn (p := p) (mo := (s / 4 % 2)) (A := A) hp263 H.2.1 H.2.2.1 H.2.2.2.1 ) (ev_if_eq_zo rfl  (fun c1 => (ev_aload_n rfl rfl   (ev_iload_n rfl rfl   (ev_virt rfl rfl rfl rfl rfl (oX12_k hp263) rfl rfl rfl (ev_eqM q2 (r_isNow (s := s) (A := A) hp263 (H.2.2.2.2.1 c1).1 )) (ev_aload_n rfl rfl   (ev_iload_n rfl rfl   (ev_virt rfl rfl rfl rfl rfl (oX12_k hp263) rfl rfl rfl (ev_eqM q3 (r_does (p := p) (A := A2) hp263 (H.2.2.2.2.1 c1).2.1 (H.2.2.2.2.1 c1).2.2.1 (H.2.2.2.2.1 c1).2.2.2.1 )) (ev_aload_n rfl rfl   (ev_virt rfl rfl rfl rfl rfl (oX12_k hp263) rfl rfl rfl (ev_eqM q4 (r_keepsFirst (A := A3) hp263 (H.2.2.2.2.1 c1).2.2.2.2.1 )) (ev_aload_n rfl rfl   (ev_iload_n rfl rfl   (ev_iload_n rfl rfl   (ev_stat rfl rfl rfl rfl rfl rfl rfl rfl (r_modeOf (s := s) (A := A4) (H.2.2.2.2.1 c1).2.2.2.2.2.1 ) (en_iconst rfl rfl   (en_iconst rfl rfl   (en_iconst rfl rfl   (ev_virt rfl rfl rfl rfl rfl (oX12_k hp263) rfl rfl rfl (ev_eqM q5 (r_isLike (s := s) (mo := (s / 4 % 2)) (ba := 0) (cl := 0) (sh := true) (A := A4) hp263 (H.2.2.2.2.1 c1).2.2.2.2.2.2.1 )) (ev_aload_n rfl rfl   (ev_iload_n rfl rfl   (ev_virt rfl rfl rfl rfl rfl (oX12_k hp263) rfl rfl rfl (ev_eqM q6 (r_does (p := p) (A := A5) hp263 (H.2.2.2.2.1 c1).2.2.2.2.2.2.2.1 (H.2.2.2.2.1 c1).2.2.2.2.2.2.2.2.1 (H.2.2.2.2.1 c1).2.2.2.2.2.2.2.2.2.1 )) (ev_aload_n rfl rfl   (ev_iload_n rfl rfl   (ev_stat rfl rfl rfl rfl rfl rfl rfl rfl (r_baseOf (s := s) (A := A6) (H.2.2.2.2.1 c1).2.2.2.2.2.2.2.2.2.2.1 ) (ev_virt rfl rfl rfl rfl rfl (oX12_k hp263) rfl rfl rfl (r_isUnlike (b := (2 * (s / 8 % 4))) (A := A6) hp263 (H.2.2.2.2.1 c1).2.2.2.2.2.2.2.2.2.2.2.1 (H.2.2.2.2.1 c1).2.2.2.2.2.2.2.2.2.2.2.2.1 (H.2.2.2.2.1 c1).2.2.2.2.2.2.2.2.2.2.2.2.2.1 ) (ev_iretz rfl rfl (zo_b _) (H.2.2.2.2.1 c1).2.2.2.2.2.2.2.2.2.2.2.2.2.2))))))))))))))))))))))))) (fun c1 => (en_iconst rfl rfl   (ev_iretz rfl rfl (Or.inl rfl) (H.2.2.2.2.2 c1))))))))))
theorem r_isLocalIn {X : gv_X} {d : Nat} {G : gv_Sh} {A : Nat → Nat → Nat} {j : Nat → Nat → Int64} {cc : gv_Rs} {p : Nat} {s : Nat} (hp263 : oX12 G 263) (p0 : okW (A 264)) (p1 : p < 8) (p2 : s < 512) : ∃ A1 : Nat → Nat → Nat, Ev X (d + 4) gvm_257 0 (gv_enter [.ref 263, .int (nI p), .int (nI s)] 3) [] (G, (mI A, j), cc) (.inl (some (.int (zo (tr2 (A 264) p s)))), (G, (mI A1, j), cc)) ∧ (frS A A1) := by
  obtain ⟨A2, q2⟩ : ∃ Zz, Zz = (mWr A (lkM A s (s / 4 % 2) (2 * (s / 8 % 4)) 0 0)) := ⟨_, rfl⟩
  obtain ⟨A3, q3⟩ : ∃ Zz, Zz = (mWr A2 (mOp 0 (A2 264) p (mRd A2))) := ⟨_, rfl⟩
  obtain ⟨A4, q4⟩ : ∃ Zz, Zz = (kWr A3) := ⟨_, rfl⟩
  obtain ⟨A5, q5⟩ : ∃ Zz, Zz = (mWr A4 (lkM A4 s (s / 4 % 2) 0 0 (bif true then 2 * (s / 8 % 4) else 0))) := ⟨_, rfl⟩
  obtain ⟨A6, q6⟩ : ∃ Zz, Zz = (mWr A5 (mOp 0 (A5 264) p (mRd A5))) := ⟨_, rfl⟩
  obtain ⟨a1, a2, a3, a4, a5, a6, a7, a8, a9, a10⟩ := two q2 q3 q4 q5 q6 p0 p1 (by omega) (by omega) (by omega) (by omega) (by omega) (by omega) (by omega) (by omega)
  cases ht : trp (A 264) p (s / 4 % 2) with
  | true =>
    have hr : tr2 (A 264) p s = false := by unfold tr2; rw [ht]; rfl
    rw [hr]
    refine ⟨A, ?_, frS_rf A⟩
    refine w257 hp263 q2 q3 q4 q5 q6 ⟨by (first | omega | assumption), ⟨by (first | omega | assumption), ⟨by (first | omega | assumption), ⟨by (first | omega | assumption), ⟨fun c1 => ⟨by (first | omega | assumption), ⟨by (first | omega | assumption), ⟨by (first | omega | assumption), ⟨by (first | omega | assumption), ⟨by (first | omega | assumption), ⟨by (first | omega | assumption), ⟨by (first | omega | assumption), ⟨by (first | omega | assumption), ⟨by (first | omega | assumption), ⟨by (first | omega | assumption), ⟨by (first | omega | assumption), ⟨by (first | omega | assumption), ⟨by (first | omega | assumption), ⟨by (first | omega | assumption), ?_⟩⟩⟩⟩⟩⟩⟩⟩⟩⟩⟩⟩⟩⟩, fun c1 => ?_⟩⟩⟩⟩⟩
    · exact absurd (ht.symm.trans c1) (by decide)
    · rfl
  | false =>
    have hr : tr2 (A 264) p s = unl (2 * (s / 8 % 4)) (mRd A6) (kRd A6) := by unfold tr2; rw [ht, a8]; rfl
    rw [hr]
    refine ⟨A6, ?_, a9⟩
    refine w257 hp263 q2 q3 q4 q5 q6 ⟨by (first | omega | assumption), ⟨by (first | omega | assumption), ⟨by (first | omega | assumption), ⟨by (first | omega | assumption), ⟨fun c1 => ⟨by (first | omega | assumption), ⟨by (first | omega | assumption), ⟨by (first | omega | assumption), ⟨by (first | omega | assumption), ⟨by (first | omega | assumption), ⟨by (first | omega | assumption), ⟨by (first | omega | assumption), ⟨by (first | omega | assumption), ⟨by (first | omega | assumption), ⟨by (first | omega | assumption), ⟨by (first | omega | assumption), ⟨by (first | omega | assumption), ⟨by (first | omega | assumption), ⟨by (first | omega | assumption), ?_⟩⟩⟩⟩⟩⟩⟩⟩⟩⟩⟩⟩⟩⟩, fun c1 => ?_⟩⟩⟩⟩⟩
    · rfl
    · exact absurd (ht.symm.trans c1) (by decide)
theorem w258 {X : gv_X} {d : Nat} {G : gv_Sh} {A : Nat → Nat → Nat} {j : Nat → Nat → Int64} {cc : gv_Rs} {r : gv_O × gv_S} {p : Nat} {s : Nat} (hp263 : oX12 G 263) (H : (s < 2147483648) ∧ ((okW (A 264)) ∧ ((p < 8) ∧ (((s / 4 % 2) < 4294967296) ∧ ((((decide (A 264 (30 + 9 * p + 1) = 1) && decide ((s / 4 % 2) = 0)) = false) → Ev X (d + 4) gvm_258 19 [some (.ref 263), some (.int (nI p)), some (.int (nI s)), some (.int (nI 0)), some (.int (nI 1))] [] (G, (mI A, j), cc) r) ∧ (((decide (A 264 (30 + 9 * p + 1) = 1) && decide ((s / 4 % 2) = 0)) = true) → r = (.inl (some (.int (nI 0))), (G, (mI A, j), cc)))))))) : Ev X (d + 4) gvm_258 0 (gv_enter [.ref 263, .int (nI p), .int (nI s)] 5) [] (G, (mI A, j), cc) r :=
  (ev_aload_n rfl rfl   (ev_iload_n rfl rfl   (ev_iload_n rfl rfl   (ev_stat rfl rfl rfl rfl rfl rfl rfl rfl (r_modeOf (s := s) (A := A) H.1 ) (ev_virt rfl rfl rfl rfl rfl (oX12_k hp263) rfl rfl rfl (r_trapsIn (p := p) (mo := (s / 4 % 2)) (A := A) hp263 H.2.1 H.2.2.1 H.2.2.2.1 ) (ev_if_eq_zo rfl  (fun c1 => (en_iconst rfl rfl   (ev_istore_n rfl rfl   (en_iconst rfl rfl   (ev_istore rfl rfl   (H.2.2.2.2.1 c1)))))) (fun c1 => (en_iconst rfl rfl   (ev_iretz rfl rfl (Or.inl rfl) (H.2.2.2.2.2 c1))))))))))
theorem w258_19 {X : gv_X} {d : Nat} {G : gv_Sh} {A : Nat → Nat → Nat} {j : Nat → Nat → Int64} {cc : gv_Rs} {r : gv_O × gv_S} {p : Nat} {s : Nat} {l3 : Bool} {l4 : Nat} {A3 : Nat → Nat → Nat} {A4 : Nat → Nat → Nat} {A5 : Nat → Nat → Nat} {A6 : Nat → Nat → Nat} {A7 : Nat → Nat → Nat} (hp263 : oX12 G 263) (q3 : A3 = (mWr A (lkM A s (s / 4 % 2) (2 * (s / 8 % 4)) 0 0))) (q4 : A4 = (mWr A3 (mOp 0 (A3 264) p (mRd A3)))) (q5 : A5 = (kWr A4)) (q6 : A6 = (mWr A5 (lkM A5 s (s / 4 % 2) (2 * (s / 8 % 4)) l4 (bif false then 2 * (s / 8 % 4) else 0)))) (q7 : A7 = (mWr A6 (mOp 0 (A6 264) p (mRd A6)))) (H : (l4 < 2147483648) ∧ (((8 ≤ l4) → r = (.inl (some (.int (zo l3))), (G, (mI A, j), cc))) ∧ ((l4 < 8) → ((l3 = true) → r = (.inl (some (.int (zo l3))), (G, (mI A, j), cc))) ∧ ((l3 = false) → (s < 2147483648) ∧ ((okW (A3 264)) ∧ ((okM (mSk0 (mRd A3))) ∧ ((p < 8) ∧ ((A4 263 23 < 2) ∧ ((s < 2147483648) ∧ ((s < 2147483648) ∧ ((s < 2147483648) ∧ ((okW (A6 264)) ∧ ((okM (mSk0 (mRd A6))) ∧ ((p < 8) ∧ ((okU (mRd A7)) ∧ ((okU (kRd A7)) ∧ (Ev X (d + 4) gvm_258 19 [some (.ref 263), some (.int (nI p)), some (.int (nI s)), some (.int (zo (unl 0 (mRd A7) (kRd A7)))), some (.int (nI (l4 + 1)))] [] (G, (mI A7, j), cc) r))))))))))))))))) : Ev X (d + 4) gvm_258 19 [some (.ref 263), some (.int (nI p)), some (.int (nI s)), some (.int (zo l3)), some (.int (nI l4))] [] (G, (mI A, j), cc) r :=
  (ev_iload rfl rfl   (en_bipush rfl rfl   (en_ic_ge rfl H.1 (by decide) (fun c1 => (ev_iload_n rfl rfl   (ev_iretz rfl rfl (zo_b _) (H.2.1 c1)))) (fun c1 => (ev_iload_n rfl rfl   (ev_if_ne_zo rfl  (fun c2 => (ev_iload_n rfl rfl   (ev_iretz rfl rfl (zo_b _) ((H.2.2 c1).1 c2)))) (fun c2 => (ev_aload_n rfl rfl   (ev_iload_n rfl rfl   (ev_virt rfl rfl rfl rfl rfl (oX12_k hp263) rfl rfl rfl (ev_eqM q3 (r_isNow (s := s) (A := A) hp263 ((H.2.2 c1).2 c2).1 )) (ev_aload_n rfl rfl   (ev_iload_n rfl rfl   (ev_virt rfl rfl rfl rfl rfl (oX12_k hp263) rfl rfl rfl (ev_eqM q4 (r_does (p := p) (A := A3) hp263 ((H.2.2 c1).2 c2).2.1 ((H.2.2 c1).2 c2).2.2.1 ((H.2.2 c1).2 c2).2.2.2.1 )) (ev_aload_n rfl rfl   (ev_virt rfl rfl rfl rfl rfl (oX12_k hp263) rfl rfl rfl (ev_eqM q5 (r_keepsFirst (A := A4) hp263 ((H.2.2 c1).2 c2).2.2.2.2.1 )) (ev_aload_n rfl rfl   (ev_iload_n rfl rfl   (ev_iload_n rfl rfl   (ev_stat rfl rfl rfl rfl rfl rfl rfl rfl (r_modeOf (s := s) (A := A5) ((H.2.2 c1).2 c2).2.2.2.2.2.1 ) (ev_iload_n rfl rfl   (ev_stat rfl rfl rfl rfl rfl rfl rfl rfl (r_baseOf (s := s) (A := A5) ((H.2.2 c1).2 c2).2.2.2.2.2.2.1 ) (ev_iload rfl rfl   (en_iconst rfl rfl   (ev_virt rfl rfl rfl rfl rfl (oX12_k hp263) rfl rfl rfl (ev_eqM q6 (r_isLike (s := s) (mo := (s / 4 % 2)) (ba := (2 * (s / 8 % 4))) (cl := l4) (sh := false) (A := A5) hp263 ((H.2.2 c1).2 c2).2.2.2.2.2.2.2.1 )) (ev_aload_n rfl rfl   (ev_iload_n rfl rfl   (ev_virt rfl rfl rfl rfl rfl (oX12_k hp263) rfl rfl rfl (ev_eqM q7 (r_does (p := p) (A := A6) hp263 ((H.2.2 c1).2 c2).2.2.2.2.2.2.2.2.1 ((H.2.2 c1).2 c2).2.2.2.2.2.2.2.2.2.1 ((H.2.2 c1).2 c2).2.2.2.2.2.2.2.2.2.2.1 )) (ev_aload_n rfl rfl   (en_iconst rfl rfl   (ev_virt rfl rfl rfl rfl rfl (oX12_k hp263) rfl rfl rfl (r_isUnlike (b := 0) (A := A7) hp263 ((H.2.2 c1).2 c2).2.2.2.2.2.2.2.2.2.2.2.1 ((H.2.2 c1).2 c2).2.2.2.2.2.2.2.2.2.2.2.2.1 (by decide) ) (ev_istore_n rfl rfl   (en_iinc rfl rfl rfl rfl   (ev_goto rfl ((H.2.2 c1).2 c2).2.2.2.2.2.2.2.2.2.2.2.2.2)))))))))))))))))))))))))))))))))
theorem r_isTimedIn {X : gv_X} {d : Nat} {G : gv_Sh} {A : Nat → Nat → Nat} {j : Nat → Nat → Int64} {cc : gv_Rs} {p : Nat} {s : Nat} (hp263 : oX12 G 263) (p0 : okW (A 264)) (p1 : p < 8) (p2 : s < 512) : ∃ A1 : Nat → Nat → Nat, Ev X (d + 4) gvm_258 0 (gv_enter [.ref 263, .int (nI p), .int (nI s)] 5) [] (G, (mI A, j), cc) (.inl (some (.int (zo (tr3 (A 264) p s)))), (G, (mI A1, j), cc)) ∧ (frS A A1) := by
  have L : ∀ i n B y, i + n = 7 → frS A B → y = !allN (fun c => !tr3c (A 264) p s (c + 1)) n → ∃ A1, Ev X (d + 4) gvm_258 19 [some (.ref 263), some (.int (nI p)), some (.int (nI s)), some (.int (zo y)), some (.int (nI (n + 1)))] [] (G, (mI B, j), cc) (.inl (some (.int (zo (!allN (fun c => !tr3c (A 264) p s (c + 1)) 7)))), (G, (mI A1, j), cc)) ∧ frS A A1 := by
    intro i
    induction i with
    | zero =>
      intro n B y hn hB hy
      obtain rfl : n = 7 := by omega
      subst hy
      refine ⟨B, ?_, hB⟩
      obtain ⟨A3, q3⟩ : ∃ Zz, Zz = (mWr B (lkM B s (s / 4 % 2) (2 * (s / 8 % 4)) 0 0)) := ⟨_, rfl⟩
      obtain ⟨A4, q4⟩ : ∃ Zz, Zz = (mWr A3 (mOp 0 (A3 264) p (mRd A3))) := ⟨_, rfl⟩
      obtain ⟨A5, q5⟩ : ∃ Zz, Zz = (kWr A4) := ⟨_, rfl⟩
      obtain ⟨A6, q6⟩ : ∃ Zz, Zz = (mWr A5 (lkM A5 s (s / 4 % 2) (2 * (s / 8 % 4)) (7 + 1) (bif false then 2 * (s / 8 % 4) else 0))) := ⟨_, rfl⟩
      obtain ⟨A7, q7⟩ : ∃ Zz, Zz = (mWr A6 (mOp 0 (A6 264) p (mRd A6))) := ⟨_, rfl⟩
      refine w258_19 hp263 q3 q4 q5 q6 q7 ⟨by omega, fun c1 => rfl, fun c1 => absurd c1 (by decide)⟩
    | succ i ih =>
      intro n B y hn hB hy
      have hR : B 264 = A 264 := hB.1 264 (by decide) (by decide) (by decide)
      obtain ⟨A3, q3⟩ : ∃ Zz, Zz = (mWr B (lkM B s (s / 4 % 2) (2 * (s / 8 % 4)) 0 0)) := ⟨_, rfl⟩
      obtain ⟨A4, q4⟩ : ∃ Zz, Zz = (mWr A3 (mOp 0 (A3 264) p (mRd A3))) := ⟨_, rfl⟩
      obtain ⟨A5, q5⟩ : ∃ Zz, Zz = (kWr A4) := ⟨_, rfl⟩
      obtain ⟨A6, q6⟩ : ∃ Zz, Zz = (mWr A5 (lkM A5 s (s / 4 % 2) (2 * (s / 8 % 4)) (n + 1) (bif false then 2 * (s / 8 % 4) else 0))) := ⟨_, rfl⟩
      obtain ⟨A7, q7⟩ : ∃ Zz, Zz = (mWr A6 (mOp 0 (A6 264) p (mRd A6))) := ⟨_, rfl⟩
      obtain ⟨a1, a2, a3, a4, a5, a6, a7, a8, a9, a10⟩ := two q3 q4 q5 q6 q7 (hR ▸ p0) p1 (by omega) (by omega) (by omega) (by omega) (by omega) (by omega) (by omega) (by omega)
      cases y with
      | true =>
        have h7 : allN (fun c => !tr3c (A 264) p s (c + 1)) 7 = false := by
          cases h : allN (fun c => !tr3c (A 264) p s (c + 1)) 7 with
          | false => rfl
          | true =>
            have := (allN_iff (n := n)).mpr (fun k hk => (allN_iff (n := 7)).mp h k (by omega))
            rw [this] at hy; exact absurd hy (by decide)
        rw [h7]
        refine ⟨B, ?_, hB⟩
        refine w258_19 hp263 q3 q4 q5 q6 q7 ⟨by (first | omega | assumption), ⟨fun c1 => ?_, fun c1 => ⟨fun c2 => ?_, fun c2 => ⟨by (first | omega | assumption), ⟨by (first | omega | assumption), ⟨by (first | omega | assumption), ⟨by (first | omega | assumption), ⟨by (first | omega | assumption), ⟨by (first | omega | assumption), ⟨by (first | omega | assumption), ⟨by (first | omega | assumption), ⟨by (first | omega | assumption), ⟨by (first | omega | assumption), ⟨by (first | omega | assumption), ⟨by (first | omega | assumption), ⟨by (first | omega | assumption), ?_⟩⟩⟩⟩⟩⟩⟩⟩⟩⟩⟩⟩⟩⟩⟩⟩
        · rfl
        · rfl
        · exact absurd c2 (by decide)
      | false =>
        obtain ⟨A1, hE, hf⟩ := ih (n + 1) A7 (unl 0 (mRd A7) (kRd A7)) (by omega) (frS_tr hB a9) (by
          have e : allN (fun c => !tr3c (A 264) p s (c + 1)) n = true := by
            cases h : allN (fun c => !tr3c (A 264) p s (c + 1)) n with
            | true => rfl
            | false => rw [h] at hy; exact absurd hy (by decide)
          rw [a8 0, hR]
          show _ = !(allN (fun c => !tr3c (A 264) p s (c + 1)) n && !tr3c (A 264) p s (n + 1))
          rw [e, Bool.true_and, Bool.not_not]
          rfl)
        refine ⟨A1, ?_, hf⟩
        refine w258_19 hp263 q3 q4 q5 q6 q7 ⟨by (first | omega | assumption | exact hR ▸ p0), ⟨fun c1 => ?_, fun c1 => ⟨fun c2 => ?_, fun c2 => ⟨by (first | omega | assumption | exact hR ▸ p0), ⟨by (first | omega | assumption | exact hR ▸ p0), ⟨by (first | omega | assumption | exact hR ▸ p0), ⟨by (first | omega | assumption | exact hR ▸ p0), ⟨by (first | omega | assumption | exact hR ▸ p0), ⟨by (first | omega | assumption | exact hR ▸ p0), ⟨by (first | omega | assumption | exact hR ▸ p0), ⟨by (first | omega | assumption | exact hR ▸ p0), ⟨by (first | omega | assumption | exact hR ▸ p0), ⟨by (first | omega | assumption | exact hR ▸ p0), ⟨by (first | omega | assumption | exact hR ▸ p0), ⟨by (first | omega | assumption | exact hR ▸ p0), ⟨by (first | omega | assumption | exact hR ▸ p0), ?_⟩⟩⟩⟩⟩⟩⟩⟩⟩⟩⟩⟩⟩⟩⟩⟩
        · omega
        · exact absurd c2 (by decide)
        · exact hE
  cases ht : trp (A 264) p (s / 4 % 2) with
  | true =>
    have hr : tr3 (A 264) p s = false := by unfold tr3; rw [ht]; rfl
    rw [hr]
    refine ⟨A, ?_, frS_rf A⟩
    refine w258 hp263  ⟨by (first | omega | assumption), ⟨by (first | omega | assumption), ⟨by (first | omega | assumption), ⟨by (first | omega | assumption), ⟨fun c1 => ?_, fun c1 => ?_⟩⟩⟩⟩⟩
    · exact absurd (ht.symm.trans c1) (by decide)
    · rfl
  | false =>
    obtain ⟨A1, hE, hf⟩ := L 7 0 A false (by omega) (frS_rf A) rfl
    have hr : tr3 (A 264) p s = !allN (fun c => !tr3c (A 264) p s (c + 1)) 7 := by unfold tr3; rw [ht]; rfl
    rw [hr]
    refine ⟨A1, ?_, hf⟩
    refine w258 hp263  ⟨by (first | omega | assumption), ⟨by (first | omega | assumption), ⟨by (first | omega | assumption), ⟨by (first | omega | assumption), ⟨fun c1 => ?_, fun c1 => ?_⟩⟩⟩⟩⟩
    · exact hE
    · exact absurd (ht.symm.trans c1) (by decide)
theorem w259 {X : gv_X} {d : Nat} {G : gv_Sh} {A : Nat → Nat → Nat} {j : Nat → Nat → Int64} {cc : gv_Rs} {r : gv_O × gv_S} {p : Nat} {what : Nat} {s : Nat} {A11 : Nat → Nat → Nat} {A12 : Nat → Nat → Nat} {A13 : Nat → Nat → Nat} {A14 : Nat → Nat → Nat} (hp263 : oX12 G 263) (v4 : (¬ what = 0) → (¬ what = 1) → (¬ what = 2) → Ev X (d + 0 + 4) gvm_258 0 (gv_enter [.ref 263, .int (nI p), .int (nI s)] 5) [] (G, (mI A, j), cc) (.inl (some (.int (zo (tr3 (A 264) p s)))), (G, (mI A11, j), cc))) (v5 : (¬ what = 0) → (¬ what = 1) → (what = 2) → Ev X (d + 0 + 4) gvm_257 0 (gv_enter [.ref 263, .int (nI p), .int (nI s)] 3) [] (G, (mI A, j), cc) (.inl (some (.int (zo (tr2 (A 264) p s)))), (G, (mI A12, j), cc))) (v6 : (¬ what = 0) → (what = 1) → Ev X (d + 0 + 4) gvm_256 0 (gv_enter [.ref 263, .int (nI p), .int (nI s)] 3) [] (G, (mI A, j), cc) (.inl (some (.int (zo (tr1 (A 264) p s)))), (G, (mI A13, j), cc))) (v7 : (what = 0) → Ev X (d + 0 + 4) gvm_253 0 (gv_enter [.ref 263, .int (nI p), .int (nI s)] 3) [] (G, (mI A, j), cc) (.inl (some (.int (zo (tr0 (A 264) p s)))), (G, (mI A14, j), cc))) (H : (what < 4294967296) ∧ (((¬ what = 0) → (what < 4294967296) ∧ (((¬ what = 1) → (what < 4294967296) ∧ (((¬ what = 2) → r = (.inl (some (.int (zo (tr3 (A 264) p s)))), (G, (mI A11, j), cc))) ∧ ((what = 2) → r = (.inl (some (.int (zo (tr2 (A 264) p s)))), (G, (mI A12, j), cc))))) ∧ ((what = 1) → r = (.inl (some (.int (zo (tr1 (A 264) p s)))), (G, (mI A13, j), cc))))) ∧ ((what = 0) → r = (.inl (some (.int (zo (tr0 (A 264) p s)))), (G, (mI A14, j), cc))))) : Ev X (d + 5) gvm_259 0 (gv_enter [.ref 263, .int (nI p), .int (nI what), .int (nI s)] 4) [] (G, (mI A, j), cc) r :=
  (ev_iload_n rfl rfl   (en_if_ne rfl H.1 (fun c1 => (ev_iload_n rfl rfl   (en_iconst rfl rfl   (en_ic_ne rfl (H.2.1 c1).1 (by decide) (fun c2 => (ev_iload_n rfl rfl   (en_iconst rfl rfl   (en_ic_ne rfl ((H.2.1 c1).2.1 c2).1 (by decide) (fun c3 => (ev_aload_n rfl rfl   (ev_iload_n rfl rfl   (ev_iload_n rfl rfl   (ev_virt rfl rfl rfl rfl rfl (oX12_k hp263) rfl rfl rfl (v4 c1 c2 c3) (ev_iretz rfl rfl (zo_b _) (((H.2.1 c1).2.1 c2).2.1 c3))))))) (fun c3 => (ev_aload_n rfl rfl   (ev_iload_n rfl rfl   (ev_iload_n rfl rfl   (ev_virt rfl rfl rfl rfl rfl (oX12_k hp263) rfl rfl rfl (v5 c1 c2 c3) (ev_goto rfl (ev_iretz rfl rfl (zo_b _) (((H.2.1 c1).2.1 c2).2.2 c3)))))))))))) (fun c2 => (ev_aload_n rfl rfl   (ev_iload_n rfl rfl   (ev_iload_n rfl rfl   (ev_virt rfl rfl rfl rfl rfl (oX12_k hp263) rfl rfl rfl (v6 c1 c2) (ev_goto rfl (ev_iretz rfl rfl (zo_b _) ((H.2.1 c1).2.2 c2)))))))))))) (fun c1 => (ev_aload_n rfl rfl   (ev_iload_n rfl rfl   (ev_iload_n rfl rfl   (ev_virt rfl rfl rfl rfl rfl (oX12_k hp263) rfl rfl rfl (v7 c1) (ev_goto rfl (ev_iretz rfl rfl (zo_b _) (H.2.2 c1))))))))))
theorem r_isSoIn {X : gv_X} {d : Nat} {G : gv_Sh} {A : Nat → Nat → Nat} {j : Nat → Nat → Int64} {cc : gv_Rs} {p : Nat} {what : Nat} {s : Nat} (hp263 : oX12 G 263) (p0 : okW (A 264)) (p1 : p < 8) (p2 : s < 512) (p3 : what < 4) : ∃ A1 : Nat → Nat → Nat, Ev X (d + 5) gvm_259 0 (gv_enter [.ref 263, .int (nI p), .int (nI what), .int (nI s)] 4) [] (G, (mI A, j), cc) (.inl (some (.int (zo (trB (A 264) p what s)))), (G, (mI A1, j), cc)) ∧ (frS A A1) := by
  obtain ⟨B0, h0, f0⟩ := r_isControlIn (X := X) (d := d) (G := G) (j := j) (cc := cc) hp263 p0 p1 p2
  obtain ⟨B1, h1, f1⟩ := r_isModalIn (X := X) (d := d) (G := G) (j := j) (cc := cc) hp263 p0 p1 p2
  obtain ⟨B2, h2, f2⟩ := r_isLocalIn (X := X) (d := d) (G := G) (j := j) (cc := cc) hp263 p0 p1 p2
  obtain ⟨B3, h3, f3⟩ := r_isTimedIn (X := X) (d := d) (G := G) (j := j) (cc := cc) hp263 p0 p1 p2
  rcases (by omega : what = 0 ∨ what = 1 ∨ what = 2 ∨ what = 3) with rfl | rfl | rfl | rfl
  · refine ⟨B0, ?_, f0⟩
    refine w259 hp263 (fun _ _ _ => h3) (fun _ _ _ => h2) (fun _ _ => h1) (fun _ => h0) ⟨by omega, ⟨fun c1 => ⟨by omega, ⟨fun c2 => ⟨by omega, ⟨fun c3 => ?_, fun c3 => ?_⟩⟩, fun c2 => ?_⟩⟩, fun c1 => ?_⟩⟩
    · omega
    · omega
    · omega
    · rfl
  · refine ⟨B1, ?_, f1⟩
    refine w259 hp263 (fun _ _ _ => h3) (fun _ _ _ => h2) (fun _ _ => h1) (fun _ => h0) ⟨by omega, ⟨fun c1 => ⟨by omega, ⟨fun c2 => ⟨by omega, ⟨fun c3 => ?_, fun c3 => ?_⟩⟩, fun c2 => ?_⟩⟩, fun c1 => ?_⟩⟩
    · omega
    · omega
    · rfl
    · omega
  · refine ⟨B2, ?_, f2⟩
    refine w259 hp263 (fun _ _ _ => h3) (fun _ _ _ => h2) (fun _ _ => h1) (fun _ => h0) ⟨by omega, ⟨fun c1 => ⟨by omega, ⟨fun c2 => ⟨by omega, ⟨fun c3 => ?_, fun c3 => ?_⟩⟩, fun c2 => ?_⟩⟩, fun c1 => ?_⟩⟩
    · omega
    · rfl
    · omega
    · omega
  · refine ⟨B3, ?_, f3⟩
    refine w259 hp263 (fun _ _ _ => h3) (fun _ _ _ => h2) (fun _ _ => h1) (fun _ => h0) ⟨by omega, ⟨fun c1 => ⟨by omega, ⟨fun c2 => ⟨by omega, ⟨fun c3 => ?_, fun c3 => ?_⟩⟩, fun c2 => ?_⟩⟩, fun c1 => ?_⟩⟩
    · rfl
    · omega
    · omega
    · omega
theorem w260 {X : gv_X} {d : Nat} {G : gv_Sh} {A : Nat → Nat → Nat} {j : Nat → Nat → Int64} {cc : gv_Rs} {r : gv_O × gv_S} {p : Nat} {what : Nat} (hp263 : oX12 G 263) (H : Ev X (d + 6) gvm_260 2 [some (.ref 263), some (.int (nI p)), some (.int (nI what)), some (.int (nI 0))] [] (G, (mI A, j), cc) r) : Ev X (d + 6) gvm_260 0 (gv_enter [.ref 263, .int (nI p), .int (nI what)] 4) [] (G, (mI A, j), cc) r :=
  (en_iconst rfl rfl   (ev_istore_n rfl rfl   H))
theorem w260_2 {X : gv_X} {d : Nat} {G : gv_Sh} {A : Nat → Nat → Nat} {j : Nat → Nat → Int64} {cc : gv_Rs} {r : gv_O × gv_S} {p : Nat} {what : Nat} {l3 : Nat} {A11 : Nat → Nat → Nat} (hp263 : oX12 G 263) (v3 : (l3 < 512) → Ev X (d + 0 + 5) gvm_259 0 (gv_enter [.ref 263, .int (nI p), .int (nI what), .int (nI l3)] 4) [] (G, (mI A, j), cc) (.inl (some (.int (zo (trB (A 264) p what l3)))), (G, (mI A11, j), cc))) (H : (l3 < 2147483648) ∧ (((512 ≤ l3) → (l3 < 4294967296) ∧ (((¬ l3 = 512) → r = (.inl (some (.int (nI l3))), (G, (mI A, j), cc))) ∧ ((l3 = 512) → r = (.inl (some (.int (nI 4294967295))), (G, (mI A, j), cc))))) ∧ ((l3 < 512) → (((trB (A 264) p what l3) = true) → (l3 < 4294967296) ∧ (((¬ l3 = 512) → r = (.inl (some (.int (nI l3))), (G, (mI A11, j), cc))) ∧ ((l3 = 512) → r = (.inl (some (.int (nI 4294967295))), (G, (mI A11, j), cc))))) ∧ (((trB (A 264) p what l3) = false) → Ev X (d + 6) gvm_260 2 [some (.ref 263), some (.int (nI p)), some (.int (nI what)), some (.int (nI (l3 + 1)))] [] (G, (mI A11, j), cc) r)))) : Ev X (d + 6) gvm_260 2 [some (.ref 263), some (.int (nI p)), some (.int (nI what)), some (.int (nI l3))] [] (G, (mI A, j), cc) r :=
  (ev_iload_n rfl rfl   (en_sipush rfl rfl   (en_ic_ge rfl H.1 (by decide) (fun c1 => (ev_iload_n rfl rfl   (en_sipush rfl rfl   (en_ic_ne rfl (H.2.1 c1).1 (by decide) (fun c2 => (ev_iload_n rfl rfl   (ev_ireti rfl rfl ((H.2.1 c1).2.1 c2)))) (fun c2 => (en_iconst rfl (by decide)   (ev_goto rfl (ev_ireti rfl rfl ((H.2.1 c1).2.2 c2))))))))) (fun c1 => (ev_aload_n rfl rfl   (ev_iload_n rfl rfl   (ev_iload_n rfl rfl   (ev_iload_n rfl rfl   (ev_virt rfl rfl rfl rfl rfl (oX12_k hp263) rfl rfl rfl (v3 c1) (ev_if_ne_zo rfl  (fun c4 => (ev_iload_n rfl rfl   (en_sipush rfl rfl   (en_ic_ne rfl ((H.2.2 c1).1 c4).1 (by decide) (fun c5 => (ev_iload_n rfl rfl   (ev_ireti rfl rfl (((H.2.2 c1).1 c4).2.1 c5)))) (fun c5 => (en_iconst rfl (by decide)   (ev_goto rfl (ev_ireti rfl rfl (((H.2.2 c1).1 c4).2.2 c5))))))))) (fun c4 => (en_iinc rfl rfl rfl rfl   (ev_goto rfl ((H.2.2 c1).2 c4))))))))))))))
theorem r_witnessOf {X : gv_X} {d : Nat} {G : gv_Sh} {A : Nat → Nat → Nat} {j : Nat → Nat → Int64} {cc : gv_Rs} {p : Nat} {what : Nat} (hp263 : oX12 G 263) (p0 : okW (A 264)) (p1 : p < 8) (p2 : what < 4) : ∃ A1 : Nat → Nat → Nat, Ev X (d + 6) gvm_260 0 (gv_enter [.ref 263, .int (nI p), .int (nI what)] 4) [] (G, (mI A, j), cc) (.inl (some (.int (nI (wit (A 264) p what)))), (G, (mI A1, j), cc)) ∧ (frS A A1) := by
  have L : ∀ i k B, i + k = 512 → frS A B → ∃ A1, Ev X (d + 6) gvm_260 2 [some (.ref 263), some (.int (nI p)), some (.int (nI what)), some (.int (nI k))] [] (G, (mI B, j), cc) (.inl (some (.int (nI (if lstN (trB (A 264) p what) i k = 512 then 4294967295 else lstN (trB (A 264) p what) i k)))), (G, (mI A1, j), cc)) ∧ frS A A1 := by
    intro i
    induction i with
    | zero =>
      intro k B hk hB
      obtain rfl : k = 512 := by omega
      refine ⟨B, ?_, hB⟩
      refine w260_2 hp263 (A11 := B) (fun h => absurd h (by decide)) ⟨by omega, ⟨fun c1 => ⟨by omega, ⟨fun c2 => ?_, fun c2 => ?_⟩⟩, fun c1 => ⟨fun c4 => ⟨by omega, ⟨fun c5 => ?_, fun c5 => ?_⟩⟩, fun c4 => ?_⟩⟩⟩
      · exact absurd rfl c2
      · rfl
      all_goals omega
    | succ i ih =>
      intro k B hk hB
      have hR : B 264 = A 264 := hB.1 264 (by decide) (by decide) (by decide)
      obtain ⟨B1, hE, hf⟩ := r_isSoIn (X := X) (d := d) (G := G) (j := j) (cc := cc) (A := B) (p := p) (what := what) (s := k) hp263 (hR ▸ p0) p1 (by omega) p2
      cases ht : trB (B 264) p what k with
      | true =>
        have e : lstN (trB (A 264) p what) (i + 1) k = k := if_pos (hR ▸ ht)
        rw [e, if_neg (by omega)]
        refine ⟨B1, ?_, frS_tr hB hf⟩
        refine w260_2 hp263 (fun _ => hE) ⟨by omega, ⟨fun c1 => ⟨by omega, ⟨fun c2 => ?_, fun c2 => ?_⟩⟩, fun c1 => ⟨fun c4 => ⟨by omega, ⟨fun c5 => ?_, fun c5 => ?_⟩⟩, fun c4 => ?_⟩⟩⟩
        all_goals (first | omega | rfl | exact absurd (ht.symm.trans c4) (by decide))
      | false =>
        have e : lstN (trB (A 264) p what) (i + 1) k = lstN (trB (A 264) p what) i (k + 1) := if_neg (by rw [← hR, ht]; decide)
        rw [e]
        obtain ⟨A1, h1, f1⟩ := ih (k + 1) B1 (by omega) (frS_tr hB hf)
        refine ⟨A1, ?_, f1⟩
        refine w260_2 hp263 (fun _ => hE) ⟨by omega, ⟨fun c1 => ⟨by omega, ⟨fun c2 => ?_, fun c2 => ?_⟩⟩, fun c1 => ⟨fun c4 => ⟨by omega, ⟨fun c5 => ?_, fun c5 => ?_⟩⟩, fun c4 => ?_⟩⟩⟩
        all_goals (first | omega | exact h1 | exact absurd (ht.symm.trans c4) (by decide))
  obtain ⟨A1, h, f⟩ := L 512 0 A (by omega) (frS_rf A)
  exact ⟨A1, w260 hp263 h, f⟩
