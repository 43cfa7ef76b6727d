/-! the class: the reader -/
/-- the text is the tape t -/
def tI (A : Nat → Nat → Nat) (t : Nat → Nat) (E : Nat) : Prop := A 258 1 = E ∧ E ≤ 400 ∧ ∀ i, i < E → A 259 i < 256 ∧ t i = sx8 (A 259 i)
/-- the kind of what stands at s: 0 nothing, 1 a number, 2 a word, 3 a sign -/
def tkK (t : Nat → Nat) (E i : Nat) : Nat := if skB t E i = E then 0 else if 48 ≤ t (skB t E i) ∧ t (skB t E i) ≤ 57 then 1 else if 97 ≤ t (skB t E i) ∧ t (skB t E i) ≤ 122 then 2 else 3
def tkE (t : Nat → Nat) (E i : Nat) : Nat := if skB t E i = E then skB t E i else if 48 ≤ t (skB t E i) ∧ t (skB t E i) ≤ 57 then dgE t E (skB t E i) else if 97 ≤ t (skB t E i) ∧ t (skB t E i) ≤ 122 then ltE t E (skB t E i) else skB t E i + 1
def tkN (t : Nat → Nat) (s e : Nat) : Nat := if e - s ≤ 3 then dvN t s (e - s) else 4294967295
/-- the reader has what stands from i on -/
def kI (A : Nat → Nat → Nat) (t : Nat → Nat) (E i : Nat) : Prop := tI A t E ∧ i ≤ E ∧ A 258 4 = skB t E i ∧ A 258 2 = tkE t E i ∧ A 258 5 = tkK t E i ∧ (tkK t E i = 1 → A 258 6 = tkN t (skB t E i) (tkE t E i)) ∧ (tkK t E i = 3 → A 258 6 < 256 ∧ t (skB t E i) = sx8 (A 258 6))
def frR (A B : Nat → Nat → Nat) : Prop := (∀ q, q ≠ 258 → B q = A q) ∧ ∀ k, k ≠ 2 → k ≠ 4 → k ≠ 5 → k ≠ 6 → B 258 k = A 258 k
theorem sx8_eq {u c : Nat} (hu : u < 256) (hc : c < 128) : sx8 u = c ↔ u = c := by
  unfold sx8
  split <;> omega
theorem sx8_in {u lo hi : Nat} (hu : u < 256) (hc : hi < 128) : (lo ≤ sx8 u ∧ sx8 u ≤ hi) ↔ (lo ≤ u ∧ u ≤ hi) := by
  unfold sx8
  split <;> omega
theorem frR_rf (A : Nat → Nat → Nat) : frR A A := ⟨fun _ _ => rfl, fun _ _ _ _ _ => rfl⟩
theorem frR_tr {A B C : Nat → Nat → Nat} (h : frR A B) (h2 : frR B C) : frR A C := ⟨fun q a => (h2.1 q a).trans (h.1 q a), fun k a b c d => (h2.2 k a b c d).trans (h.2 k a b c d)⟩
theorem frR_1 {A B : Nat → Nat → Nat} (h : frR A B) : B 258 1 = A 258 1 := h.2 1 (by decide) (by decide) (by decide) (by decide)
theorem frR_3 {A B : Nat → Nat → Nat} (h : frR A B) : B 258 3 = A 258 3 := h.2 3 (by decide) (by decide) (by decide) (by decide)
theorem frR_g {A B : Nat → Nat → Nat} (h : frR A B) {k v : Nat} (hk : k = 2 ∨ k = 4 ∨ k = 5 ∨ k = 6) : frR A (gu B 258 k v) := ⟨fun q a => (gu_row a).trans (h.1 q a), fun x a b c d => (gu_k (by omega) rfl).trans (h.2 x a b c d)⟩
theorem tI_of {A B : Nat → Nat → Nat} {t : Nat → Nat} {E : Nat} (h : tI A t E) (e : B 258 1 = A 258 1) (f : B 259 = A 259) : tI B t E := by
  unfold tI; rw [e, f]; exact h
theorem tI_fr {A B : Nat → Nat → Nat} {t : Nat → Nat} {E : Nat} (h : tI A t E) (f : frR A B) : tI B t E := tI_of h (frR_1 f) (f.1 259 (by decide))
theorem skB_sp {t : Nat → Nat} {E i : Nat} (h : i ≤ E) : ¬ (skB t E i < E ∧ t (skB t E i) = 32) := fun z => skp_d (t := t) (E := E) (lo := 32) (hi := 32) (i := i) rfl h ⟨z.1, by have := z.2; unfold skB at this; omega, by have := z.2; unfold skB at this; omega⟩
/-- digits read so far -/
def snI (A B : Nat → Nat → Nat) (t : Nat → Nat) (s k : Nat) : Prop := frR A B ∧ B 258 4 = A 258 4 ∧ B 258 2 = s + k ∧ B 258 5 = 1 ∧ B 258 6 = tkN t s (s + k)
theorem tkN_s {t : Nat → Nat} {s k : Nat} : tkN t s (s + k) = if k ≤ 3 then dvN t s k else 4294967295 := by
  unfold tkN; rw [Nat.add_sub_cancel_left]
theorem w62 {X : gv_X} {d : Nat} {G : gv_Sh} {A : Nat → Nat → Nat} {j : Nat → Nat → Int64} {cc : gv_Rs} {P : gv_O × gv_S → Prop} {c : Nat} (hp258 : oX7 G 258) (H : (((c + 2147483648) % 4294967296 < (48 + 2147483648) % 4294967296) → P (.inl (some (.int (nI 0))), (G, (mI A, j), cc))) ∧ (((48 + 2147483648) % 4294967296 ≤ (c + 2147483648) % 4294967296) → (((57 + 2147483648) % 4294967296 < (c + 2147483648) % 4294967296) → P (.inl (some (.int (nI 0))), (G, (mI A, j), cc))) ∧ (((c + 2147483648) % 4294967296 ≤ (57 + 2147483648) % 4294967296) → P (.inl (some (.int (nI 1))), (G, (mI A, j), cc))))) : EvP X (d + 0) gvm_62 0 (gv_enter [.ref 258, .int (nI c)] 2) [] (G, (mI A, j), cc) P :=
  (pv_iload_n rfl rfl   (pn_bipush rfl rfl   (pn_ic_ltw rfl  (fun c1 => (pn_iconst rfl rfl   (pv_iretz rfl rfl (Or.inl rfl) (H.1 c1)))) (fun c1 => (pv_iload_n rfl rfl   (pn_bipush rfl rfl   (pn_ic_gtw rfl  (fun c2 => (pn_iconst rfl rfl   (pv_iretz rfl rfl (Or.inl rfl) ((H.2 c1).1 c2)))) (fun c2 => (pn_iconst rfl rfl   (pv_goto rfl (pv_iretz rfl rfl (Or.inr rfl) ((H.2 c1).2 c2))))))))))))
theorem c_isDigit_p {X : gv_X} {d : Nat} {G : gv_Sh} {A : Nat → Nat → Nat} {j : Nat → Nat → Int64} {cc : gv_Rs} {P : gv_O × gv_S → Prop} {c : Nat} (hp258 : oX7 G 258) (p0 : c < 4294967296) (hP : P (.inl (some (.int (zo (decide (48 ≤ c ∧ c ≤ 57))))), (G, (mI A, j), cc))) : EvP X (d + 0) gvm_62 0 (gv_enter [.ref 258, .int (nI c)] 2) [] (G, (mI A, j), cc) P := by
  refine w62 hp258 ⟨fun c1 => qz0 hP (decide_eq_false (by omega)), fun c1 => ⟨fun c2 => qz0 hP (decide_eq_false (by omega)), fun c2 => qz1 hP (decide_eq_true (by omega))⟩⟩
theorem c_isDigit {X : gv_X} {d : Nat} {G : gv_Sh} {A : Nat → Nat → Nat} {j : Nat → Nat → Int64} {cc : gv_Rs} {c : Nat} (hp258 : oX7 G 258) (p0 : c < 4294967296) : Ev X (d + 0) gvm_62 0 (gv_enter [.ref 258, .int (nI c)] 2) [] (G, (mI A, j), cc) (.inl (some (.int (zo (decide (48 ≤ c ∧ c ≤ 57))))), (G, (mI A, j), cc)) := evp_det (c_isDigit_p hp258 p0 rfl)
theorem w63 {X : gv_X} {d : Nat} {G : gv_Sh} {A : Nat → Nat → Nat} {j : Nat → Nat → Int64} {cc : gv_Rs} {P : gv_O × gv_S → Prop} {c : Nat} (hp258 : oX7 G 258) (H : (((c + 2147483648) % 4294967296 < (97 + 2147483648) % 4294967296) → P (.inl (some (.int (nI 0))), (G, (mI A, j), cc))) ∧ (((97 + 2147483648) % 4294967296 ≤ (c + 2147483648) % 4294967296) → (((122 + 2147483648) % 4294967296 < (c + 2147483648) % 4294967296) → P (.inl (some (.int (nI 0))), (G, (mI A, j), cc))) ∧ (((c + 2147483648) % 4294967296 ≤ (122 + 2147483648) % 4294967296) → P (.inl (some (.int (nI 1))), (G, (mI A, j), cc))))) : EvP X (d + 0) gvm_63 0 (gv_enter [.ref 258, .int (nI c)] 2) [] (G, (mI A, j), cc) P :=
  (pv_iload_n rfl rfl   (pn_bipush rfl rfl   (pn_ic_ltw rfl  (fun c1 => (pn_iconst rfl rfl   (pv_iretz rfl rfl (Or.inl rfl) (H.1 c1)))) (fun c1 => (pv_iload_n rfl rfl   (pn_bipush rfl rfl   (pn_ic_gtw rfl  (fun c2 => (pn_iconst rfl rfl   (pv_iretz rfl rfl (Or.inl rfl) ((H.2 c1).1 c2)))) (fun c2 => (pn_iconst rfl rfl   (pv_goto rfl (pv_iretz rfl rfl (Or.inr rfl) ((H.2 c1).2 c2))))))))))))
theorem c_isLetter_p {X : gv_X} {d : Nat} {G : gv_Sh} {A : Nat → Nat → Nat} {j : Nat → Nat → Int64} {cc : gv_Rs} {P : gv_O × gv_S → Prop} {c : Nat} (hp258 : oX7 G 258) (p0 : c < 4294967296) (hP : P (.inl (some (.int (zo (decide (97 ≤ c ∧ c ≤ 122))))), (G, (mI A, j), cc))) : EvP X (d + 0) gvm_63 0 (gv_enter [.ref 258, .int (nI c)] 2) [] (G, (mI A, j), cc) P := by
  refine w63 hp258 ⟨fun c1 => qz0 hP (decide_eq_false (by omega)), fun c1 => ⟨fun c2 => qz0 hP (decide_eq_false (by omega)), fun c2 => qz1 hP (decide_eq_true (by omega))⟩⟩
theorem c_isLetter {X : gv_X} {d : Nat} {G : gv_Sh} {A : Nat → Nat → Nat} {j : Nat → Nat → Int64} {cc : gv_Rs} {c : Nat} (hp258 : oX7 G 258) (p0 : c < 4294967296) : Ev X (d + 0) gvm_63 0 (gv_enter [.ref 258, .int (nI c)] 2) [] (G, (mI A, j), cc) (.inl (some (.int (zo (decide (97 ≤ c ∧ c ≤ 122))))), (G, (mI A, j), cc)) := evp_det (c_isLetter_p hp258 p0 rfl)
theorem w69 {X : gv_X} {d : Nat} {G : gv_Sh} {A : Nat → Nat → Nat} {j : Nat → Nat → Int64} {cc : gv_Rs} {P : gv_O × gv_S → Prop}  (hp258 : oX7 G 258) (H : P (.inl (some (.int (nI 0))), (G, (mI (gu A 258 3 (A 258 4)), j), cc))) : EvP X (d + 0) gvm_69 0 (gv_enter [.ref 258] 1) [] (G, (mI A, j), cc) P :=
  (pv_aload_n rfl rfl   (pv_aload_n rfl rfl   (pn_getI rfl rfl (oX7_k hp258) rfl   (pn_putI rfl rfl (oX7_k hp258)   (pn_iconst rfl rfl   (pv_iretz rfl rfl (Or.inl rfl) H))))))
theorem c_refuse_p {X : gv_X} {d : Nat} {G : gv_Sh} {A : Nat → Nat → Nat} {j : Nat → Nat → Int64} {cc : gv_Rs} {P : gv_O × gv_S → Prop}  (hp258 : oX7 G 258)  (hP : P (.inl (some (.int (zo false))), (G, (mI (gu A 258 3 (A 258 4)), j), cc))) : EvP X (d + 0) gvm_69 0 (gv_enter [.ref 258] 1) [] (G, (mI A, j), cc) P := by
  exact w69 hp258 (qz0 hP rfl)
theorem c_refuse {X : gv_X} {d : Nat} {G : gv_Sh} {A : Nat → Nat → Nat} {j : Nat → Nat → Int64} {cc : gv_Rs}  (hp258 : oX7 G 258)  : Ev X (d + 0) gvm_69 0 (gv_enter [.ref 258] 1) [] (G, (mI A, j), cc) (.inl (some (.int (zo false))), (G, (mI (gu A 258 3 (A 258 4)), j), cc)) := evp_det (c_refuse_p hp258  rfl)
theorem w61 {X : gv_X} {d : Nat} {G : gv_Sh} {A : Nat → Nat → Nat} {j : Nat → Nat → Int64} {cc : gv_Rs} {P : gv_O × gv_S → Prop}  (hp258 : oX7 G 258) (H : EvP X (d + 1) gvm_61 10 [some (.ref 258)] [] (G, (mI (gu (gu A 258 5 1) 258 6 0), j), cc) P) : EvP X (d + 1) gvm_61 0 (gv_enter [.ref 258] 1) [] (G, (mI A, j), cc) P :=
  (pv_aload_n rfl rfl   (pn_iconst rfl rfl   (pn_putI rfl rfl (oX7_k hp258)   (pv_aload_n rfl rfl   (pn_iconst rfl rfl   (pn_putI rfl rfl (oX7_k hp258)   H))))))
theorem w61_10 {X : gv_X} {d : Nat} {G : gv_Sh} {A : Nat → Nat → Nat} {j : Nat → Nat → Int64} {cc : gv_Rs} {P : gv_O × gv_S → Prop}  (hp258 : oX7 G 258) (H : ((A 258 2) < 2147483648) ∧ (((A 258 1) < 2147483648) ∧ ((((A 258 1) ≤ (A 258 2)) → P (.inl none, (G, (mI A, j), cc))) ∧ (((A 258 2) < (A 258 1)) → ((A 258 2) < 4294967296) ∧ ((A 258 1 ≤ 400) ∧ (((if (A 258 2) < A 258 1 then A 259 (A 258 2) else 4294967295) < 4294967296) ∧ (((¬ (48 ≤ (if (A 258 2) < A 258 1 then A 259 (A 258 2) else 4294967295) ∧ (if (A 258 2) < A 258 1 then A 259 (A 258 2) else 4294967295) ≤ 57)) → P (.inl none, (G, (mI A, j), cc))) ∧ ((48 ≤ (if (A 258 2) < A 258 1 then A 259 (A 258 2) else 4294967295) ∧ (if (A 258 2) < A 258 1 then A 259 (A 258 2) else 4294967295) ≤ 57) → ((A 258 4) ≤ 4294967296) ∧ (((((A 258 2) + 4294967296 - (A 258 4)) % 4294967296) < 2147483648) ∧ (((3 ≤ (((A 258 2) + 4294967296 - (A 258 4)) % 4294967296)) → EvP X (d + 1) gvm_61 10 [some (.ref 258)] [] (G, (mI (gu (gu A 258 6 4294967295) 258 2 ((A 258 2) + 1)), j), cc) P) ∧ (((((A 258 2) + 4294967296 - (A 258 4)) % 4294967296) < 3) → ((A 258 2) < 4294967296) ∧ ((A 258 1 ≤ 400) ∧ (EvP X (d + 1) gvm_61 10 [some (.ref 258)] [] (G, (mI (gu (gu A 258 6 ((((10 * (A 258 6)) + (if (A 258 2) < A 258 1 then A 259 (A 258 2) else 4294967295)) + 4294967296 - 48) % 4294967296)) 258 2 ((A 258 2) + 1)), j), cc) P))))))))))))) : EvP X (d + 1) gvm_61 10 [some (.ref 258)] [] (G, (mI A, j), cc) P :=
  (pv_aload_n rfl rfl   (pn_getI rfl rfl (oX7_k hp258) rfl   (pv_aload_n rfl rfl   (pn_getI rfl rfl (oX7_k hp258) rfl   (pn_ic_ge rfl H.1 H.2.1 (fun c1 => (pv_vret rfl (H.2.2.1 c1))) (fun c1 => (pv_aload_n rfl rfl   (pv_aload_n rfl rfl   (pv_aload_n rfl rfl   (pn_getI rfl rfl (oX7_k hp258) rfl   (pv_virt rfl rfl rfl rfl rfl (oX7_k hp258) rfl rfl rfl (c_byteAt (i := (A 258 2)) (A := A) hp258 (H.2.2.2 c1).1 (H.2.2.2 c1).2.1 ) (pv_virt rfl rfl rfl rfl rfl (oX7_k hp258) rfl rfl rfl (c_isDigit (c := (if (A 258 2) < A 258 1 then A 259 (A 258 2) else 4294967295)) (A := A) hp258 (H.2.2.2 c1).2.2.1 ) (pv_if_eq_dc rfl  (fun c2 => (pv_vret rfl ((H.2.2.2 c1).2.2.2.1 c2))) (fun c2 => (pv_aload_n rfl rfl   (pv_aload_n rfl rfl   (pn_getI rfl rfl (oX7_k hp258) rfl   (pv_aload_n rfl rfl   (pn_getI rfl rfl (oX7_k hp258) rfl   (pn_isubw rfl ((H.2.2.2 c1).2.2.2.2 c2).1  (pn_iconst rfl rfl   (pn_ic_ge rfl ((H.2.2.2 c1).2.2.2.2 c2).2.1 (by decide) (fun c3 => (pn_iconst (u := 4294967295) rfl (by decide)   (pn_putI rfl rfl (oX7_k hp258)   (pv_aload_n rfl rfl   (pv_dup rfl rfl   (pn_getI rfl rfl (oX7_k hp258) (gu_k (by decide) rfl)   (pn_iconst rfl rfl   (pn_iadd rfl   (pn_putI rfl rfl (oX7_k hp258)   (pv_goto rfl (((H.2.2.2 c1).2.2.2.2 c2).2.2.1 c3))))))))))) (fun c3 => (pn_bipush rfl rfl   (pv_aload_n rfl rfl   (pn_getI rfl rfl (oX7_k hp258) rfl   (pn_imul rfl   (pv_aload_n rfl rfl   (pv_aload_n rfl rfl   (pn_getI rfl rfl (oX7_k hp258) rfl   (pv_virt rfl rfl rfl rfl rfl (oX7_k hp258) rfl rfl rfl (c_byteAt (i := (A 258 2)) (A := A) hp258 (((H.2.2.2 c1).2.2.2.2 c2).2.2.2 c3).1 (((H.2.2.2 c1).2.2.2.2 c2).2.2.2 c3).2.1 ) (pn_iadd rfl   (pn_bipush rfl rfl   (pn_isubw rfl (by decide)  (pv_goto rfl (pn_putI rfl rfl (oX7_k hp258)   (pv_aload_n rfl rfl   (pv_dup rfl rfl   (pn_getI rfl rfl (oX7_k hp258) (gu_k (by decide) rfl)   (pn_iconst rfl rfl   (pn_iadd rfl   (pn_putI rfl rfl (oX7_k hp258)   (pv_goto rfl (((H.2.2.2 c1).2.2.2.2 c2).2.2.2 c3).2.2)))))))))))))))))))))))))))))))))))))))))))
theorem c_stepNumber_p {X : gv_X} {d : Nat} {G : gv_Sh} {A : Nat → Nat → Nat} {j : Nat → Nat → Int64} {cc : gv_Rs} {P : gv_O × gv_S → Prop} {t : Nat → Nat} {E : Nat} (hp258 : oX7 G 258) (p0 : tI A t E) (p1 : A 258 2 = A 258 4) (p2 : A 258 4 ≤ E) (hP : ∀ A1 : Nat → Nat → Nat, (frR A A1) ∧ (A1 258 4 = A 258 4) ∧ (A1 258 2 = dgE t E (A 258 4)) ∧ (A1 258 5 = 1) ∧ (A1 258 6 = tkN t (A 258 4) (dgE t E (A 258 4))) → P (.inl none, (G, (mI A1, j), cc))) : EvP X (d + 1) gvm_61 0 (gv_enter [.ref 258] 1) [] (G, (mI A, j), cc) P := by
  obtain ⟨s, hs⟩ : ∃ s, s = A 258 4 := ⟨_, rfl⟩
  rw [← hs] at p1 p2 hP
  have hE : E = A 258 1 := p0.1.symm
  have hE4 : E ≤ 400 := p0.2.1
  have L : ∀ n k B, E - (s + k) = n → s + k ≤ E → (∀ x, x < k → 48 ≤ t (s + x) ∧ t (s + x) ≤ 57) → dgE t E s = dgE t E (s + k) → snI A B t s k → EvP X (d + 1) gvm_61 10 [some (.ref 258)] [] (G, (mI B, j), cc) P := by
    intro n
    induction n with
    | zero =>
      intro k B e1 e2 e3 e4 h
      have b1 : B 258 1 = E := by rw [frR_1 h.1]; exact hE.symm
      have ee : dgE t E (s + k) = s + k := skp_e (by omega) e2
      refine w61_10 hp258 ⟨by rw [h.2.2.1]; omega, by rw [b1]; omega, fun c => hP B ⟨h.1, h.2.1.trans hs.symm, ?_, h.2.2.2.1, ?_⟩, fun c => absurd c (by rw [b1, h.2.2.1]; omega)⟩
      · rw [e4, ee]; exact h.2.2.1
      · rw [e4, ee]; exact h.2.2.2.2
    | succ n ih =>
      intro k B e1 e2 e3 e4 h
      have b1 : B 258 1 = E := by rw [frR_1 h.1]; exact hE.symm
      have b2 := h.2.2.1
      have b4 : B 258 4 = s := h.2.1.trans hs.symm
      have b9 : B 259 = A 259 := h.1.1 259 (by decide)
      have ht := p0.2.2 (s + k) (by omega)
      have fv : (if B 258 2 < B 258 1 then B 259 (B 258 2) else 4294967295) = A 259 (s + k) := by rw [if_pos (by omega), b9, b2]
      refine w61_10 hp258 ?_
      rw [fv]
      refine ⟨by omega, by omega, fun c => absurd c (by omega), fun c => ⟨by omega, by omega, by omega, fun c2 => ?_, fun c2 => ?_⟩⟩
      · have ee : dgE t E (s + k) = s + k := skp_e (fun z => c2 ((sx8_in ht.1 (by decide)).mp (by rw [← ht.2]; exact z.2))) e2
        refine hP B ⟨h.1, h.2.1.trans hs.symm, ?_, h.2.2.2.1, ?_⟩
        · rw [e4, ee]; exact h.2.2.1
        · rw [e4, ee]; exact h.2.2.2.2
      · have c3 : 48 ≤ t (s + k) ∧ t (s + k) ≤ 57 := by rw [ht.2]; exact (sx8_in ht.1 (by decide)).mpr c2
        have tv : t (s + k) = A 259 (s + k) := by rw [ht.2]; exact (sx8_eq ht.1 (by omega)).mpr rfl
        have e4' : dgE t E s = dgE t E (s + (k + 1)) := e4.trans (skp_s (by omega) c3)
        have e3' : ∀ x, x < k + 1 → 48 ≤ t (s + x) ∧ t (s + x) ≤ 57 := fun x hx => by
          by_cases z : x = k
          · rw [z]; exact c3
          · exact e3 x (by omega)
        have ek : (B 258 2 + 4294967296 - B 258 4) % 4294967296 = k := by omega
        have b6 := h.2.2.2.2
        rw [tkN_s] at b6
        rw [ek]
        refine ⟨by omega, by omega, fun c4 => ?_, fun c4 => ⟨by omega, by omega, ?_⟩⟩
        · refine ih (k + 1) _ (by omega) (by omega) e3' e4' ⟨frR_g (frR_g h.1 (by omega)) (by omega), ?_, ?_, ?_, ?_⟩
          · rw [gu_k (by decide) rfl, gu_k (by decide) rfl]; exact h.2.1
          · rw [gu_hit]; omega
          · rw [gu_k (by decide) rfl, gu_k (by decide) rfl]; exact h.2.2.2.1
          · rw [gu_k (by decide) rfl, gu_hit, tkN_s, if_neg (by omega)]
        · have dl := (dvN_le (t := t) (b := s) k e3)
          rw [if_pos (by omega)] at b6
          refine ih (k + 1) _ (by omega) (by omega) e3' e4' ⟨frR_g (frR_g h.1 (by omega)) (by omega), ?_, ?_, ?_, ?_⟩
          · rw [gu_k (by decide) rfl, gu_k (by decide) rfl]; exact h.2.1
          · rw [gu_hit]; omega
          · rw [gu_k (by decide) rfl, gu_k (by decide) rfl]; exact h.2.2.2.1
          · rw [gu_k (by decide) rfl, gu_hit, tkN_s, if_pos (by omega), b6]
            show _ = if k < 3 then 10 * dvN t s k + (t (s + k) - 48) else dvN t s k
            rw [if_pos c4, tv]
            omega
  refine w61 hp258 (L _ 0 _ rfl (by omega) (fun x hx => absurd hx (by omega)) rfl ⟨frR_g (frR_g (frR_rf A) (by omega)) (by omega), ?_, ?_, ?_, ?_⟩)
  · rw [gu_k (by decide) rfl, gu_k (by decide) rfl]
  · rw [gu_k (by decide) rfl, gu_k (by decide) rfl]; omega
  · rw [gu_k (by decide) rfl, gu_hit]
  · rw [gu_hit, tkN_s]; rfl
theorem c_stepNumber {X : gv_X} {d : Nat} {G : gv_Sh} {A : Nat → Nat → Nat} {j : Nat → Nat → Int64} {cc : gv_Rs} {t : Nat → Nat} {E : Nat} (hp258 : oX7 G 258) (p0 : tI A t E) (p1 : A 258 2 = A 258 4) (p2 : A 258 4 ≤ E) : ∃ A1 : Nat → Nat → Nat, Ev X (d + 1) gvm_61 0 (gv_enter [.ref 258] 1) [] (G, (mI A, j), cc) (.inl none, (G, (mI A1, j), cc)) ∧ (frR A A1) ∧ (A1 258 4 = A 258 4) ∧ (A1 258 2 = dgE t E (A 258 4)) ∧ (A1 258 5 = 1) ∧ (A1 258 6 = tkN t (A 258 4) (dgE t E (A 258 4))) := by
  obtain ⟨_, h, A1, rfl, hp⟩ := c_stepNumber_p (X := X) (d := d) (G := G) (A := A) (j := j) (cc := cc) (t := t) (E := E) (P := fun r => ∃ A1 : Nat → Nat → Nat, r = (.inl none, (G, (mI A1, j), cc)) ∧ (frR A A1) ∧ (A1 258 4 = A 258 4) ∧ (A1 258 2 = dgE t E (A 258 4)) ∧ (A1 258 5 = 1) ∧ (A1 258 6 = tkN t (A 258 4) (dgE t E (A 258 4)))) hp258 p0 p1 p2 (fun A1 h => ⟨A1, rfl, h⟩)
  exact ⟨A1, h, hp⟩
theorem w60 {X : gv_X} {d : Nat} {G : gv_Sh} {A : Nat → Nat → Nat} {j : Nat → Nat → Int64} {cc : gv_Rs} {P : gv_O × gv_S → Prop}  (hp258 : oX7 G 258) (H : EvP X (d + 2) gvm_60 0 [some (.ref 258), none] [] (G, (mI A, j), cc) P) : EvP X (d + 2) gvm_60 0 (gv_enter [.ref 258] 2) [] (G, (mI A, j), cc) P :=
  H
theorem w60_0 {X : gv_X} {d : Nat} {G : gv_Sh} {A : Nat → Nat → Nat} {j : Nat → Nat → Int64} {cc : gv_Rs} {P : gv_O × gv_S → Prop}  (hp258 : oX7 G 258) (H : ((A 258 2) < 2147483648) ∧ (((A 258 1) < 2147483648) ∧ ((((A 258 1) ≤ (A 258 2)) → EvP X (d + 2) gvm_60 37 [some (.ref 258), none] [] (G, (mI A, j), cc) P) ∧ (((A 258 2) < (A 258 1)) → ((A 258 2) < 4294967296) ∧ ((A 258 1 ≤ 400) ∧ (((if (A 258 2) < A 258 1 then A 259 (A 258 2) else 4294967295) < 4294967296) ∧ (((¬ (if (A 258 2) < A 258 1 then A 259 (A 258 2) else 4294967295) = 32) → EvP X (d + 2) gvm_60 37 [some (.ref 258), none] [] (G, (mI A, j), cc) P) ∧ (((if (A 258 2) < A 258 1 then A 259 (A 258 2) else 4294967295) = 32) → EvP X (d + 2) gvm_60 0 [some (.ref 258), none] [] (G, (mI (gu A 258 2 ((A 258 2) + 1)), j), cc) P)))))))) : EvP X (d + 2) gvm_60 0 (gv_enter [.ref 258] 2) [] (G, (mI A, j), cc) P :=
  (pv_aload_n rfl rfl   (pn_getI rfl rfl (oX7_k hp258) rfl   (pv_aload_n rfl rfl   (pn_getI rfl rfl (oX7_k hp258) rfl   (pn_ic_ge rfl H.1 H.2.1 (fun c1 => (H.2.2.1 c1)) (fun c1 => (pv_aload_n rfl rfl   (pv_aload_n rfl rfl   (pn_getI rfl rfl (oX7_k hp258) rfl   (pv_virt rfl rfl rfl rfl rfl (oX7_k hp258) rfl rfl rfl (c_byteAt (i := (A 258 2)) (A := A) hp258 (H.2.2.2 c1).1 (H.2.2.2 c1).2.1 ) (pn_bipush rfl rfl   (pn_ic_ne rfl (H.2.2.2 c1).2.2.1 (by decide) (fun c2 => ((H.2.2.2 c1).2.2.2.1 c2)) (fun c2 => (pv_aload_n rfl rfl   (pv_dup rfl rfl   (pn_getI rfl rfl (oX7_k hp258) rfl   (pn_iconst rfl rfl   (pn_iadd rfl   (pn_putI rfl rfl (oX7_k hp258)   (pv_goto rfl ((H.2.2.2 c1).2.2.2.2 c2)))))))))))))))))))))
theorem w60_37 {X : gv_X} {d : Nat} {G : gv_Sh} {A : Nat → Nat → Nat} {j : Nat → Nat → Int64} {cc : gv_Rs} {P : gv_O × gv_S → Prop}  (hp258 : oX7 G 258) (H : ((A 258 2) < 4294967296) ∧ (((gu A 258 4 (A 258 2)) 258 1 ≤ 400) ∧ (EvP X (d + 2) gvm_60 59 [some (.ref 258), some (.int (nI (if (A 258 2) < (gu A 258 4 (A 258 2)) 258 1 then A 259 (A 258 2) else 4294967295)))] [] (G, (mI (gu (gu A 258 4 (A 258 2)) 258 6 (if (A 258 2) < (gu A 258 4 (A 258 2)) 258 1 then A 259 (A 258 2) else 4294967295)), j), cc) P))) : EvP X (d + 2) gvm_60 37 [some (.ref 258), none] [] (G, (mI A, j), cc) P :=
  (pv_aload_n rfl rfl   (pv_aload_n rfl rfl   (pn_getI rfl rfl (oX7_k hp258) rfl   (pn_putI rfl rfl (oX7_k hp258)   (pv_aload_n rfl rfl   (pv_aload_n rfl rfl   (pn_getI rfl rfl (oX7_k hp258) (gu_k (by decide) rfl)   (pv_virt rfl rfl rfl rfl rfl (oX7_k hp258) rfl rfl rfl (c_byteAt (i := (A 258 2)) (A := (gu A 258 4 (A 258 2))) hp258 H.1 H.2.1 ) (pv_istore_n rfl rfl   (pv_aload_n rfl rfl   (pv_iload_n rfl rfl   (pn_putI rfl rfl (oX7_k hp258)   H.2.2))))))))))))
theorem w60_59 {X : gv_X} {d : Nat} {G : gv_Sh} {A : Nat → Nat → Nat} {j : Nat → Nat → Int64} {cc : gv_Rs} {P : gv_O × gv_S → Prop} {l1 : Nat} {t : Nat → Nat} {E : Nat} (hp258 : oX7 G 258) (H : (l1 < 4294967296) ∧ (((¬ l1 = 4294967295) → (l1 < 4294967296) ∧ (((¬ (48 ≤ l1 ∧ l1 ≤ 57)) → (l1 < 4294967296) ∧ (((¬ (97 ≤ l1 ∧ l1 ≤ 122)) → P (.inl none, (G, (mI (gu (gu A 258 5 3) 258 2 ((A 258 2) + 1)), j), cc))) ∧ ((97 ≤ l1 ∧ l1 ≤ 122) → EvP X (d + 2) gvm_60 100 [some (.ref 258), some (.int (nI l1))] [] (G, (mI (gu A 258 5 2), j), cc) P))) ∧ ((48 ≤ l1 ∧ l1 ≤ 57) → (tI A t E) ∧ ((A 258 2 = A 258 4) ∧ ((A 258 4 ≤ E) ∧ ((∀ A1v3 : Nat → Nat → Nat, ((frR A A1v3) ∧ (A1v3 258 4 = A 258 4) ∧ (A1v3 258 2 = dgE t E (A 258 4)) ∧ (A1v3 258 5 = 1) ∧ (A1v3 258 6 = tkN t (A 258 4) (dgE t E (A 258 4)))) → P (.inl none, (G, (mI A1v3, j), cc))))))))) ∧ ((l1 = 4294967295) → P (.inl none, (G, (mI (gu A 258 5 0), j), cc))))) : EvP X (d + 2) gvm_60 59 [some (.ref 258), some (.int (nI l1))] [] (G, (mI A, j), cc) P :=
  (pv_iload_n rfl rfl   (pn_iconst (u := 4294967295) rfl (by decide)   (pn_ic_ne rfl H.1 (by decide) (fun c1 => (pv_aload_n rfl rfl   (pv_iload_n rfl rfl   (pv_virt rfl rfl rfl rfl rfl (oX7_k hp258) rfl rfl rfl (c_isDigit (c := l1) (A := A) hp258 (H.2.1 c1).1 ) (pv_if_eq_dc rfl  (fun c2 => (pv_aload_n rfl rfl   (pv_iload_n rfl rfl   (pv_virt rfl rfl rfl rfl rfl (oX7_k hp258) rfl rfl rfl (c_isLetter (c := l1) (A := A) hp258 ((H.2.1 c1).2.1 c2).1 ) (pv_if_eq_dc rfl  (fun c3 => (pv_aload_n rfl rfl   (pn_iconst rfl rfl   (pn_putI rfl rfl (oX7_k hp258)   (pv_aload_n rfl rfl   (pv_dup rfl rfl   (pn_getI rfl rfl (oX7_k hp258) (gu_k (by decide) rfl)   (pn_iconst rfl rfl   (pn_iadd rfl   (pn_putI rfl rfl (oX7_k hp258)   (pv_vret rfl (((H.2.1 c1).2.1 c2).2.1 c3)))))))))))) (fun c3 => (pv_aload_n rfl rfl   (pn_iconst rfl rfl   (pn_putI rfl rfl (oX7_k hp258)   (((H.2.1 c1).2.1 c2).2.2 c3)))))))))) (fun c2 => (pv_aload_n rfl rfl   (match (c_stepNumber (t := t) (E := E) (A := A) (X := X) (d := d + 0) (G := G) (j := j) (cc := cc) hp258 ((H.2.1 c1).2.2 c2).1 ((H.2.1 c1).2.2 c2).2.1 ((H.2.1 c1).2.2 c2).2.2.1 ) with | ⟨A1v3, e3x81, h4⟩ => pv_virt rfl rfl rfl rfl rfl (oX7_k hp258) rfl rfl rfl e3x81 (pv_goto rfl (pv_vret rfl (((H.2.1 c1).2.2 c2).2.2.2 A1v3 h4))))))))))) (fun c1 => (pv_aload_n rfl rfl   (pn_iconst rfl rfl   (pn_putI rfl rfl (oX7_k hp258)   (pv_goto rfl (pv_vret rfl (H.2.2 c1))))))))))
theorem w60_100 {X : gv_X} {d : Nat} {G : gv_Sh} {A : Nat → Nat → Nat} {j : Nat → Nat → Int64} {cc : gv_Rs} {P : gv_O × gv_S → Prop} {l1 : Nat} (hp258 : oX7 G 258) (H : ((A 258 2) < 2147483648) ∧ (((A 258 1) < 2147483648) ∧ ((((A 258 1) ≤ (A 258 2)) → P (.inl none, (G, (mI A, j), cc))) ∧ (((A 258 2) < (A 258 1)) → ((A 258 2) < 4294967296) ∧ ((A 258 1 ≤ 400) ∧ (((if (A 258 2) < A 258 1 then A 259 (A 258 2) else 4294967295) < 4294967296) ∧ (((¬ (97 ≤ (if (A 258 2) < A 258 1 then A 259 (A 258 2) else 4294967295) ∧ (if (A 258 2) < A 258 1 then A 259 (A 258 2) else 4294967295) ≤ 122)) → P (.inl none, (G, (mI A, j), cc))) ∧ ((97 ≤ (if (A 258 2) < A 258 1 then A 259 (A 258 2) else 4294967295) ∧ (if (A 258 2) < A 258 1 then A 259 (A 258 2) else 4294967295) ≤ 122) → EvP X (d + 2) gvm_60 100 [some (.ref 258), some (.int (nI l1))] [] (G, (mI (gu A 258 2 ((A 258 2) + 1)), j), cc) P)))))))) : EvP X (d + 2) gvm_60 100 [some (.ref 258), some (.int (nI l1))] [] (G, (mI A, j), cc) P :=
  (pv_aload_n rfl rfl   (pn_getI rfl rfl (oX7_k hp258) rfl   (pv_aload_n rfl rfl   (pn_getI rfl rfl (oX7_k hp258) rfl   (pn_ic_ge rfl H.1 H.2.1 (fun c1 => (pv_vret rfl (H.2.2.1 c1))) (fun c1 => (pv_aload_n rfl rfl   (pv_aload_n rfl rfl   (pv_aload_n rfl rfl   (pn_getI rfl rfl (oX7_k hp258) rfl   (pv_virt rfl rfl rfl rfl rfl (oX7_k hp258) rfl rfl rfl (c_byteAt (i := (A 258 2)) (A := A) hp258 (H.2.2.2 c1).1 (H.2.2.2 c1).2.1 ) (pv_virt rfl rfl rfl rfl rfl (oX7_k hp258) rfl rfl rfl (c_isLetter (c := (if (A 258 2) < A 258 1 then A 259 (A 258 2) else 4294967295)) (A := A) hp258 (H.2.2.2 c1).2.2.1 ) (pv_if_eq_dc rfl  (fun c2 => (pv_vret rfl ((H.2.2.2 c1).2.2.2.1 c2))) (fun c2 => (pv_aload_n rfl rfl   (pv_dup rfl rfl   (pn_getI rfl rfl (oX7_k hp258) rfl   (pn_iconst rfl rfl   (pn_iadd rfl   (pn_putI rfl rfl (oX7_k hp258)   (pv_goto rfl ((H.2.2.2 c1).2.2.2.2 c2))))))))))))))))))))))
theorem c_step_p {X : gv_X} {d : Nat} {G : gv_Sh} {A : Nat → Nat → Nat} {j : Nat → Nat → Int64} {cc : gv_Rs} {P : gv_O × gv_S → Prop} {t : Nat → Nat} {E : Nat} {i : Nat} (hp258 : oX7 G 258) (p0 : tI A t E) (p1 : A 258 2 = i) (p2 : i ≤ E) (hP : ∀ A1 : Nat → Nat → Nat, (kI A1 t E i) ∧ (frR A A1) → P (.inl none, (G, (mI A1, j), cc))) : EvP X (d + 2) gvm_60 0 (gv_enter [.ref 258] 2) [] (G, (mI A, j), cc) P := by
  have hE : E = A 258 1 := p0.1.symm
  obtain ⟨i0, hi⟩ : ∃ k, k = i := ⟨_, rfl⟩
  obtain ⟨s, hs⟩ : ∃ s, s = skB t E i0 := ⟨_, rfl⟩
  rw [← hi] at p1 p2 hP
  have hE4 : E ≤ 400 := p0.2.1
  have hi0 : i0 ≤ E := p2
  have sb := skB_b (t := t) hi0
  rw [← hs] at sb
  have S3 : ∀ n i B, E - i = n → i ≤ E → s ≤ i → frR A B → B 258 4 = s → B 258 5 = 2 → B 258 2 = i → ltE t E s = ltE t E i → s < E → 97 ≤ t s ∧ t s ≤ 122 → ∀ l1, EvP X (d + 2) gvm_60 100 [some (.ref 258), some (.int (nI l1))] [] (G, (mI B, j), cc) P := by
    intro n
    induction n with
    | zero =>
      intro i B e1 e2 e3 h h4 h5 h2 e4 e5 e6 l1
      have b1 : B 258 1 = E := by rw [frR_1 h]; exact hE.symm
      have ee : ltE t E i = i := skp_e (by omega) e2
      have kk : tkK t E i0 = 2 := by unfold tkK; rw [← hs, if_neg (by omega), if_neg (by omega), if_pos e6]
      refine w60_100 hp258 ⟨by omega, by omega, fun c => hP B ⟨⟨tI_fr p0 h, hi0, ?_, ?_, ?_, ?_, ?_⟩, h⟩, fun c => absurd c (by omega)⟩
      · rw [h4, hs]
      · rw [h2]; unfold tkE; rw [← hs, if_neg (by omega), if_neg (by omega), if_pos e6, e4, ee]
      · rw [h5, kk]
      · rw [kk]; intro z; cases z
      · rw [kk]; intro z; cases z
    | succ n ih =>
      intro i B e1 e2 e3 h h4 h5 h2 e4 e5 e6 l1
      have b1 : B 258 1 = E := by rw [frR_1 h]; exact hE.symm
      have b9 : B 259 = A 259 := h.1 259 (by decide)
      have ht := p0.2.2 i (by omega)
      have fv : (if B 258 2 < B 258 1 then B 259 (B 258 2) else 4294967295) = A 259 i := by rw [if_pos (by omega), b9, h2]
      have kk : tkK t E i0 = 2 := by unfold tkK; rw [← hs, if_neg (by omega), if_neg (by omega), if_pos e6]
      refine w60_100 hp258 ?_
      rw [fv]
      refine ⟨by omega, by omega, fun c => absurd c (by omega), fun c => ⟨by omega, by omega, by omega, fun c2 => ?_, fun c2 => ?_⟩⟩
      · have ee : ltE t E i = i := skp_e (fun z => c2 ((sx8_in ht.1 (by decide)).mp (by rw [← ht.2]; exact z.2))) e2
        refine hP B ⟨⟨tI_fr p0 h, hi0, ?_, ?_, ?_, ?_, ?_⟩, h⟩
        · rw [h4, hs]
        · rw [h2]; unfold tkE; rw [← hs, if_neg (by omega), if_neg (by omega), if_pos e6, e4, ee]
        · rw [h5, kk]
        · rw [kk]; intro z; cases z
        · rw [kk]; intro z; cases z
      · have c3 : 97 ≤ t i ∧ t i ≤ 122 := by rw [ht.2]; exact (sx8_in ht.1 (by decide)).mpr c2
        refine ih (i + 1) _ (by omega) (by omega) (by omega) (frR_g h (by omega)) ?_ ?_ ?_ (e4.trans (skp_s (by omega) c3)) e5 e6 l1
        · rw [gu_k (by decide) rfl]; exact h4
        · rw [gu_k (by decide) rfl]; exact h5
        · rw [gu_hit, h2]
  have S2 : ∀ B l1, frR A B → B 258 2 = s → B 258 4 = s → l1 = (if s < E then A 259 s else 4294967295) → B 258 6 = l1 → EvP X (d + 2) gvm_60 59 [some (.ref 258), some (.int (nI l1))] [] (G, (mI B, j), cc) P := by
    intro B l1 h h2 h4 h1 h6
    have b1 : B 258 1 = E := by rw [frR_1 h]; exact hE.symm
    have lt : l1 < 4294967296 := by
      rw [h1]
      by_cases z : s < E
      · rw [if_pos z]; have := (p0.2.2 s (by omega)).1; omega
      · rw [if_neg z]; omega
    refine w60_59 (t := t) (E := E) hp258 ⟨lt, fun c1 => ?_, fun c1 => ?_⟩
    · have sE : s < E := by
        by_cases z : s < E
        · exact z
        · rw [if_neg z] at h1; exact absurd h1 c1
      have ht := p0.2.2 s (by omega)
      rw [if_pos sE] at h1
      have cD : (48 ≤ t s ∧ t s ≤ 57) ↔ (48 ≤ l1 ∧ l1 ≤ 57) := by rw [ht.2, h1]; exact sx8_in ht.1 (by decide)
      have cL : (97 ≤ t s ∧ t s ≤ 122) ↔ (97 ≤ l1 ∧ l1 ≤ 122) := by rw [ht.2, h1]; exact sx8_in ht.1 (by decide)
      refine ⟨lt, fun c2 => ⟨lt, fun c3 => ?_, fun c3 => ?_⟩, fun c2 => ⟨tI_fr p0 h, by omega, by omega, fun C hC => ?_⟩⟩
      · have kk : tkK t E i0 = 3 := by unfold tkK; rw [← hs, if_neg (by omega), if_neg (fun z => c2 (cD.mp z)), if_neg (fun z => c3 (cL.mp z))]
        have g1 : gu (gu B 258 5 3) 258 2 (B 258 2 + 1) 258 1 = E := by rw [gu_k (by decide) rfl, gu_k (by decide) rfl]; exact b1
        have g6 : gu (gu B 258 5 3) 258 2 (B 258 2 + 1) 258 6 = l1 := by rw [gu_k (by decide) rfl, gu_k (by decide) rfl]; exact h6
        refine hP _ ⟨⟨tI_fr p0 (frR_g (frR_g h (by omega)) (by omega)), hi0, ?_, ?_, ?_, ?_, ?_⟩, frR_g (frR_g h (by omega)) (by omega)⟩
        · rw [gu_k (by decide) rfl, gu_k (by decide) rfl, h4, hs]
        · rw [gu_hit, h2]; unfold tkE; rw [← hs, if_neg (by omega), if_neg (fun z => c2 (cD.mp z)), if_neg (fun z => c3 (cL.mp z))]
        · rw [kk, gu_k (by decide) rfl, gu_hit]
        · rw [kk]; intro z; cases z
        · rw [g6, ← hs, h1]; intro _; exact ht
      · exact S3 _ s _ rfl sb.2 (Nat.le_refl _) (frR_g h (by omega)) (by rw [gu_k (by decide) rfl]; exact h4) (gu_hit _ _ _ _) (by rw [gu_k (by decide) rfl]; exact h2) rfl sE (cL.mpr c3) l1
      · have kk : tkK t E i0 = 1 := by unfold tkK; rw [← hs, if_neg (by omega), if_pos (cD.mpr c2)]
        have ke : tkE t E i0 = dgE t E s := by unfold tkE; rw [← hs, if_neg (by omega), if_pos (cD.mpr c2)]
        obtain ⟨a1, a2, a3, a4, a5⟩ := hC
        rw [h4] at a3 a5
        have g1 : C 258 1 = E := (frR_1 a1).trans b1
        refine hP C ⟨⟨tI_fr p0 (frR_tr h a1), hi0, ?_, ?_, ?_, ?_, ?_⟩, frR_tr h a1⟩
        · rw [a2, h4, hs]
        · rw [ke, a3]
        · rw [kk, a4]
        · rw [ke, ← hs]; intro _; exact a5
        · rw [kk]; intro z; cases z
    · have sE : s = E := by
        by_cases z : s < E
        · rw [if_pos z] at h1; have := (p0.2.2 s (by omega)).1; omega
        · omega
      have kk : tkK t E i0 = 0 := by unfold tkK; rw [← hs, if_pos sE]
      have g1 : gu B 258 5 0 258 1 = E := by rw [gu_k (by decide) rfl]; exact b1
      refine hP _ ⟨⟨tI_fr p0 (frR_g h (by omega)), hi0, ?_, ?_, ?_, ?_, ?_⟩, frR_g h (by omega)⟩
      · rw [gu_k (by decide) rfl, h4, hs]
      · rw [gu_k (by decide) rfl, h2]; unfold tkE; rw [← hs, if_pos sE]
      · rw [kk, gu_hit]
      · rw [kk]; intro z; cases z
      · rw [kk]; intro z; cases z
  have S1 : ∀ B, frR A B → B 258 2 = s → EvP X (d + 2) gvm_60 37 [some (.ref 258), none] [] (G, (mI B, j), cc) P := fun B h h2 => by
    have b1 : gu B 258 4 (B 258 2) 258 1 = E := by rw [gu_k (by decide) rfl, frR_1 h]; exact hE.symm
    have b9 : B 259 = A 259 := h.1 259 (by decide)
    have fv : (if B 258 2 < gu B 258 4 (B 258 2) 258 1 then B 259 (B 258 2) else 4294967295) = (if s < E then A 259 s else 4294967295) := by rw [b1, h2, b9]
    refine w60_37 hp258 ⟨by omega, by rw [b1]; omega, S2 _ _ (frR_g (frR_g h (by omega)) (by omega)) ?_ ?_ fv (gu_hit _ _ _ _)⟩
    · rw [gu_k (by decide) rfl, gu_k (by decide) rfl]; exact h2
    · rw [gu_k (by decide) rfl, gu_hit]; exact h2
  have L : ∀ n i B, E - i = n → i ≤ E → frR A B → B 258 2 = i → s = skB t E i → EvP X (d + 2) gvm_60 0 [some (.ref 258), none] [] (G, (mI B, j), cc) P := by
    intro n
    induction n with
    | zero =>
      intro i B e1 e2 h h2 e3
      have b1 : B 258 1 = E := by rw [frR_1 h]; exact hE.symm
      have ee : skB t E i = i := skp_e (by omega) e2
      exact w60_0 hp258 ⟨by omega, by omega, fun c => S1 B h (by rw [h2, e3, ee]), fun c => absurd c (by omega)⟩
    | succ n ih =>
      intro i B e1 e2 h h2 e3
      have b1 : B 258 1 = E := by rw [frR_1 h]; exact hE.symm
      have b9 : B 259 = A 259 := h.1 259 (by decide)
      have ht := p0.2.2 i (by omega)
      have fv : (if B 258 2 < B 258 1 then B 259 (B 258 2) else 4294967295) = A 259 i := by rw [if_pos (by omega), b9, h2]
      refine w60_0 hp258 ?_
      rw [fv]
      refine ⟨by omega, by omega, fun c => absurd c (by omega), fun c => ⟨by omega, by omega, by omega, fun c2 => ?_, fun c2 => ?_⟩⟩
      · have ee : skB t E i = i := skp_e (fun z => c2 (by have := (sx8_in (lo := 32) (hi := 32) ht.1 (by decide)).mp (by rw [← ht.2]; exact z.2); omega)) e2
        exact S1 B h (by rw [h2, e3, ee])
      · have c3 : 32 ≤ t i ∧ t i ≤ 32 := by rw [ht.2]; exact (sx8_in ht.1 (by decide)).mpr (by omega)
        exact ih (i + 1) _ (by omega) (by omega) (frR_g h (by omega)) (by rw [gu_hit, h2]) (e3.trans (skp_s (by omega) c3))
  exact w60 hp258 (L _ i0 A rfl hi0 (frR_rf A) p1 hs)
theorem c_step {X : gv_X} {d : Nat} {G : gv_Sh} {A : Nat → Nat → Nat} {j : Nat → Nat → Int64} {cc : gv_Rs} {t : Nat → Nat} {E : Nat} {i : Nat} (hp258 : oX7 G 258) (p0 : tI A t E) (p1 : A 258 2 = i) (p2 : i ≤ E) : ∃ A1 : Nat → Nat → Nat, Ev X (d + 2) gvm_60 0 (gv_enter [.ref 258] 2) [] (G, (mI A, j), cc) (.inl none, (G, (mI A1, j), cc)) ∧ (kI A1 t E i) ∧ (frR A A1) := by
  obtain ⟨_, h, A1, rfl, hp⟩ := c_step_p (X := X) (d := d) (G := G) (A := A) (j := j) (cc := cc) (t := t) (E := E) (i := i) (P := fun r => ∃ A1 : Nat → Nat → Nat, r = (.inl none, (G, (mI A1, j), cc)) ∧ (kI A1 t E i) ∧ (frR A A1)) hp258 p0 p1 p2 (fun A1 h => ⟨A1, rfl, h⟩)
  exact ⟨A1, h, hp⟩
