/-! the class: Ops, numbersOf -/
def nbO (A : Nat → Nat → Nat) (o p k : Nat) : Nat → Nat
  | 0 => 0
  | i + 1 => if A (o + 2) (p * 3 + i) = k then nbO A o p k i ||| 2 ^ A (o + 3) (p * 3 + i) else nbO A o p k i

theorem w54 {X : gv_X} {d : Nat} {G : gv_Sh} {A : Nat → Nat → Nat} {j : Nat → Nat → Int64} {cc : gv_Rs} {P : gv_O × gv_S → Prop} {o : Nat} {p : Nat} {k : Nat} (ho : oX6 G o) (H : (p < 4294967296) ∧ ((A o 0 ≤ 8) ∧ (EvP X (d + 2) gvm_54 12 [some (.ref o), some (.int (nI p)), some (.int (nI k)), some (.int (nI 0)), some (.int (nI (if p < A o 0 then A (o + 1) p else 0))), some (.int (nI 0))] [] (G, (mI A, j), cc) P))) : EvP X (d + 2) gvm_54 0 (gv_enter [.ref o, .int (nI p), .int (nI k)] 6) [] (G, (mI A, j), cc) P :=
  (pn_iconst rfl rfl   (pv_istore_n rfl rfl   (pv_aload_n rfl rfl   (pv_iload_n rfl rfl   (pv_virt rfl rfl rfl rfl rfl (oX6_k ho) rfl rfl rfl (c_size (p := p) (o := o) (A := A) ho H.1 H.2.1 ) (pv_istore rfl rfl   (pn_iconst rfl rfl   (pv_istore rfl rfl   H.2.2))))))))
theorem w54_12 {X : gv_X} {d : Nat} {G : gv_Sh} {A : Nat → Nat → Nat} {j : Nat → Nat → Int64} {cc : gv_Rs} {P : gv_O × gv_S → Prop} {o : Nat} {p : Nat} {k : Nat} {l3 : Nat} {l4 : Nat} {l5 : Nat} (ho : oX6 G o) (H : (l5 < 2147483648) ∧ ((l4 < 2147483648) ∧ (((l4 ≤ l5) → P (.inl (some (.int (nI l3))), (G, (mI A, j), cc))) ∧ ((l5 < l4) → (p < 4294967296) ∧ ((l5 < 4294967296) ∧ ((A o 0 ≤ 8) ∧ ((∀ z, z < A o 0 → A (o + 1) z ≤ 3) ∧ (((if p < A o 0 ∧ l5 < A (o + 1) p then A (o + 2) (p * 3 + l5) else 4294967295) < 4294967296) ∧ ((k < 4294967296) ∧ (((¬ (if p < A o 0 ∧ l5 < A (o + 1) p then A (o + 2) (p * 3 + l5) else 4294967295) = k) → EvP X (d + 2) gvm_54 12 [some (.ref o), some (.int (nI p)), some (.int (nI k)), some (.int (nI l3)), some (.int (nI l4)), some (.int (nI (l5 + 1)))] [] (G, (mI A, j), cc) P) ∧ (((if p < A o 0 ∧ l5 < A (o + 1) p then A (o + 2) (p * 3 + l5) else 4294967295) = k) → (p < 4294967296) ∧ ((l5 < 4294967296) ∧ ((A o 0 ≤ 8) ∧ ((∀ z, z < A o 0 → A (o + 1) z ≤ 3) ∧ (((if p < A o 0 ∧ l5 < A (o + 1) p then A (o + 3) (p * 3 + l5) else 4294967295) < 32) ∧ (EvP X (d + 2) gvm_54 12 [some (.ref o), some (.int (nI p)), some (.int (nI k)), some (.int (nI (l3 ||| (2 ^ (if p < A o 0 ∧ l5 < A (o + 1) p then A (o + 3) (p * 3 + l5) else 4294967295))))), some (.int (nI l4)), some (.int (nI (l5 + 1)))] [] (G, (mI A, j), cc) P)))))))))))))))) : EvP X (d + 2) gvm_54 12 [some (.ref o), some (.int (nI p)), some (.int (nI k)), some (.int (nI l3)), some (.int (nI l4)), some (.int (nI l5))] [] (G, (mI A, j), cc) P :=
  (pv_iload rfl rfl   (pv_iload rfl rfl   (pn_ic_ge rfl H.1 H.2.1 (fun c1 => (pv_iload_n rfl rfl   (pv_ireti rfl rfl (H.2.2.1 c1)))) (fun c1 => (pv_aload_n rfl rfl   (pv_iload_n rfl rfl   (pv_iload rfl rfl   (pv_virt rfl rfl rfl rfl rfl (oX6_k ho) rfl rfl rfl (c_kindAt (p := p) (k := l5) (o := o) (A := A) ho (H.2.2.2 c1).1 (H.2.2.2 c1).2.1 (H.2.2.2 c1).2.2.1 (H.2.2.2 c1).2.2.2.1 ) (pv_iload_n rfl rfl   (pn_ic_ne rfl (H.2.2.2 c1).2.2.2.2.1 (H.2.2.2 c1).2.2.2.2.2.1 (fun c2 => (pn_iinc rfl rfl rfl rfl   (pv_goto rfl ((H.2.2.2 c1).2.2.2.2.2.2.1 c2)))) (fun c2 => (pv_iload_n rfl rfl   (pn_iconst rfl rfl   (pv_aload_n rfl rfl   (pv_iload_n rfl rfl   (pv_iload rfl rfl   (pv_virt rfl rfl rfl rfl rfl (oX6_k ho) rfl rfl rfl (c_numberAt (p := p) (k := l5) (o := o) (A := A) ho ((H.2.2.2 c1).2.2.2.2.2.2.2 c2).1 ((H.2.2.2 c1).2.2.2.2.2.2.2 c2).2.1 ((H.2.2.2 c1).2.2.2.2.2.2.2 c2).2.2.1 ((H.2.2.2 c1).2.2.2.2.2.2.2 c2).2.2.2.1 ) (pn_ishl1 rfl ((H.2.2.2 c1).2.2.2.2.2.2.2 c2).2.2.2.2.1  (pn_ior rfl   (pv_istore_n rfl rfl   (pn_iinc rfl rfl rfl rfl   (pv_goto rfl ((H.2.2.2 c1).2.2.2.2.2.2.2 c2).2.2.2.2.2))))))))))))))))))))))
theorem c_numbersOf_p {X : gv_X} {d : Nat} {G : gv_Sh} {A : Nat → Nat → Nat} {j : Nat → Nat → Int64} {cc : gv_Rs} {P : gv_O × gv_S → Prop} {o : Nat} {p : Nat} {k : Nat} (ho : oX6 G o) (p0 : p < 4294967296) (p1 : k < 4294967296) (p2 : A o 0 ≤ 8) (p3 : ∀ z, z < A o 0 → A (o + 1) z ≤ 3) (p4 : ∀ z i, z < A o 0 → i < 3 → A (o + 2) (z * 3 + i) < 4294967296 ∧ A (o + 3) (z * 3 + i) ≤ 7) (hP : P (.inl (some (.int (nI (nbO A o p k (if p < A o 0 then A (o + 1) p else 0))))), (G, (mI A, j), cc))) : EvP X (d + 2) gvm_54 0 (gv_enter [.ref o, .int (nI p), .int (nI k)] 6) [] (G, (mI A, j), cc) P := by
  obtain ⟨S, hS⟩ : ∃ S, S = (if p < A o 0 then A (o + 1) p else 0) := ⟨_, rfl⟩
  rw [← hS] at hP
  have s3 : S ≤ 3 ∧ (0 < S → p < A o 0 ∧ S = A (o + 1) p) := by
    by_cases c : p < A o 0
    · rw [if_pos c] at hS
      have := p3 p c
      exact ⟨by omega, fun _ => ⟨c, hS⟩⟩
    · rw [if_neg c] at hS
      exact ⟨by omega, fun z => by omega⟩
  have L : ∀ n i, i + n = S → EvP X (d + 2) gvm_54 12 [some (.ref o), some (.int (nI p)), some (.int (nI k)), some (.int (nI (nbO A o p k i))), some (.int (nI S)), some (.int (nI i))] [] (G, (mI A, j), cc) P := by
    intro n
    induction n with
    | zero =>
      intro i hn
      obtain rfl : i = S := by omega
      exact w54_12 ho ⟨by omega, by omega, fun c1 => hP, fun c1 => absurd c1 (by omega)⟩
    | succ n ih =>
      intro i hn
      have s4 := s3.2 (by omega)
      have hi : p < A o 0 ∧ i < A (o + 1) p := ⟨s4.1, by omega⟩
      have hv := p4 p i s4.1 (by omega)
      have h := ih (i + 1) (by omega)
      refine w54_12 ho ?_
      rw [if_pos hi, if_pos hi]
      refine ⟨by omega, by omega, fun c1 => absurd c1 (by omega), fun c1 => ⟨p0, by omega, p2, p3, hv.1, p1, fun c2 => ?_, fun c2 => ⟨p0, by omega, p2, p3, by omega, ?_⟩⟩⟩
      · have e : nbO A o p k (i + 1) = nbO A o p k i := if_neg c2
        rw [e] at h
        exact h
      · have e : nbO A o p k (i + 1) = nbO A o p k i ||| 2 ^ A (o + 3) (p * 3 + i) := if_pos c2
        rw [e] at h
        exact h
  refine w54 ho ⟨p0, p2, ?_⟩
  rw [← hS]
  exact L S 0 (Nat.zero_add _)
theorem c_numbersOf {X : gv_X} {d : Nat} {G : gv_Sh} {A : Nat → Nat → Nat} {j : Nat → Nat → Int64} {cc : gv_Rs} {o : Nat} {p : Nat} {k : Nat} (ho : oX6 G o) (p0 : p < 4294967296) (p1 : k < 4294967296) (p2 : A o 0 ≤ 8) (p3 : ∀ z, z < A o 0 → A (o + 1) z ≤ 3) (p4 : ∀ z i, z < A o 0 → i < 3 → A (o + 2) (z * 3 + i) < 4294967296 ∧ A (o + 3) (z * 3 + i) ≤ 7) : Ev X (d + 2) gvm_54 0 (gv_enter [.ref o, .int (nI p), .int (nI k)] 6) [] (G, (mI A, j), cc) (.inl (some (.int (nI (nbO A o p k (if p < A o 0 then A (o + 1) p else 0))))), (G, (mI A, j), cc)) := evp_det (c_numbersOf_p ho p0 p1 p2 p3 p4 rfl)
