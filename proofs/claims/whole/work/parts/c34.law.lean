/-! the class: codes, sums and comparisons of the law -/
def adC (A : Nat → Nat → Nat) (c : Nat) : Nat → Nat → Nat := gu (gu (gu A 69 (A 64 2) c) 64 2 (A 64 2 + 1)) 68 (A 64 1 - 1) (A 64 2 + 1)
def adL (A : Nat → Nat → Nat) (a b : Nat) : Nat → Nat → Nat := gu (gu (gu (gu (gu A 65 (A 64 1) a) 66 (A 64 1) b) 67 (A 64 1) (A 64 2)) 68 (A 64 1) (A 64 2)) 64 1 (A 64 1 + 1)
def gtC : List (Nat × Nat) → Nat → Nat × Nat
  | [], _ => (0, 0)
  | x :: _, 0 => x
  | _ :: l, k + 1 => gtC l k
theorem gtC_l : ∀ {l m : List (Nat × Nat)} {k : Nat}, k < l.length → gtC (l ++ m) k = gtC l k
  | [], _, _, h => absurd h (Nat.not_lt_zero _)
  | _ :: _, _, 0, _ => rfl
  | _ :: l, m, k + 1, h => gtC_l (l := l) (m := m) (k := k) (Nat.lt_of_succ_lt_succ h)
theorem gtC_r : ∀ {l m : List (Nat × Nat)} {k : Nat}, gtC (l ++ m) (l.length + k) = gtC m k
  | [], m, k => by rw [List.nil_append, List.length_nil, Nat.zero_add]
  | x :: l, m, k => by
    show gtC (x :: (l ++ m)) (l.length + 1 + k) = _
    rw [show l.length + 1 + k = (l.length + k) + 1 by omega]
    exact gtC_r (l := l)
/-- a line is begun -/
def lnI (A : Nat → Nat → Nat) : Prop := 1 ≤ A 64 1 ∧ A 64 1 ≤ 12 ∧ A 68 (A 64 1 - 1) = A 64 2
/-- with these codes more -/
def exL (A B : Nat → Nat → Nat) (cs : List (Nat × Nat)) : Prop := B 64 2 = A 64 2 + cs.length ∧ (∀ k, k < A 64 2 → B 69 k = A 69 k) ∧ (∀ k, k < cs.length → B 69 (A 64 2 + k) = cdN (gtC cs k).1 (gtC cs k).2) ∧ B 68 (A 64 1 - 1) = B 64 2 ∧ (∀ x, x ≠ A 64 1 - 1 → B 68 x = A 68 x) ∧ (∀ k, k ≠ 2 → B 64 k = A 64 k) ∧ ∀ q, q ≠ 64 → q ≠ 68 → q ≠ 69 → q ≠ 258 → B q = A q
def frL (A B : Nat → Nat → Nat) : Prop := ∀ q, ¬ (64 ≤ q ∧ q ≤ 69) → q ≠ 258 → B q = A q
theorem exL_nil {A B : Nat → Nat → Nat} (h : lnI A) (f : ∀ q, q ≠ 258 → B q = A q) : exL A B [] := by
  have e4 := f 64 (by decide)
  have e8 := f 68 (by decide)
  have e9 := f 69 (by decide)
  refine ⟨by rw [e4]; rfl, fun k _ => by rw [e9], fun k hk => absurd hk (Nat.not_lt_zero _), by rw [e8, e4]; exact h.2.2, fun x _ => by rw [e8], fun k _ => by rw [e4], fun q _ _ _ d => f q d⟩
theorem exL_app {A B C : Nat → Nat → Nat} {cs ds : List (Nat × Nat)} (h : exL A B cs) (g : exL B C ds) : exL A C (cs ++ ds) := by
  obtain ⟨h1, h2, h3, h4, h5, h6, h7⟩ := h
  obtain ⟨g1, g2, g3, g4, g5, g6, g7⟩ := g
  have e1 : B 64 1 = A 64 1 := h6 1 (by decide)
  rw [e1] at g4 g5
  refine ⟨by rw [g1, h1, List.length_append, Nat.add_assoc], fun k hk => (g2 k (by omega)).trans (h2 k hk), fun k hk => ?_, g4, fun x hx => (g5 x hx).trans (h5 x hx), fun k hk => (g6 k hk).trans (h6 k hk), fun q a b c d => (g7 q a b c d).trans (h7 q a b c d)⟩
  rw [List.length_append] at hk
  by_cases z : k < cs.length
  · rw [gtC_l z, g2 _ (by omega)]; exact h3 k z
  · obtain ⟨m, rfl⟩ : ∃ m, k = cs.length + m := ⟨k - cs.length, by omega⟩
    rw [gtC_r, ← Nat.add_assoc, ← h1]
    exact g3 m (by omega)
theorem exL_fr {A B C : Nat → Nat → Nat} {cs : List (Nat × Nat)} (h : exL A B cs) (f : ∀ q, q ≠ 258 → C q = B q) : exL A C cs := by
  have g : exL B C [] := ⟨by rw [f 64 (by decide)]; rfl, fun k _ => by rw [f 69 (by decide)], fun k hk => absurd hk (Nat.not_lt_zero _), by rw [f 68 (by decide), f 64 (by decide), h.2.2.2.2.2.1 1 (by decide)]; exact h.2.2.2.1, fun x _ => by rw [f 68 (by decide)], fun k _ => by rw [f 64 (by decide)], fun q _ _ _ d => f q d⟩
  have := exL_app h g
  rw [List.append_nil] at this
  exact this
theorem exL_ad {A : Nat → Nat → Nat} {c v x : Nat} (hc : cdN c v = x) : exL A (adC A x) [(c, v)] := by
  unfold adC
  refine ⟨by rw [gu_row (by decide), gu_hit]; rfl, fun k hk => ?_, fun k hk => ?_, ?_, fun y hy => ?_, fun k hk => ?_, fun q a b c d => ?_⟩
  · rw [gu_row (by decide), gu_row (by decide), gu_k (by omega) rfl]
  · obtain rfl : k = 0 := Nat.lt_one_iff.mp hk
    rw [gu_row (by decide), gu_row (by decide), Nat.add_zero, gu_hit]
    exact hc.symm
  · rw [gu_hit, gu_row (by decide), gu_hit]
  · rw [gu_k hy rfl, gu_row (by decide), gu_row (by decide)]
  · rw [gu_row (by decide), gu_k hk rfl, gu_row (by decide)]
  · rw [gu_row b, gu_row a, gu_row c]
theorem lnI_ex {A B : Nat → Nat → Nat} {cs : List (Nat × Nat)} (l : lnI A) (h : exL A B cs) : lnI B := by
  have e := h.2.2.2.2.2.1 1 (by decide)
  unfold lnI
  rw [e]
  exact ⟨l.1, l.2.1, h.2.2.2.1⟩
theorem exL_V {A B : Nat → Nat → Nat} {cs : List (Nat × Nat)} (h : exL A B cs) : frL A B := fun q a b => h.2.2.2.2.2.2 q (by omega) (by omega) (by omega) b
theorem adC_q {A : Nat → Nat → Nat} {c q : Nat} (h : q ≠ 64) (h2 : q ≠ 68) (h3 : q ≠ 69) : adC A c q = A q := by
  unfold adC; rw [gu_row h2, gu_row h, gu_row h3]
theorem kI_ad {A : Nat → Nat → Nat} {t : Nat → Nat} {E i c : Nat} (h : kI A t E i) : kI (adC A c) t E i := kI_of h (fun k _ => by rw [adC_q (by decide) (by decide) (by decide)]) (adC_q (by decide) (by decide) (by decide))
/-- what a reading of the law comes to -/
def lwQ (A B : Nat → Nat → Nat) (t : Nat → Nat) (E : Nat) (r : LwS) : Prop := (r.1 = true → kI B t E r.2.2.1 ∧ B 258 3 = A 258 3 ∧ exL A B r.2.1) ∧ (r.1 = false → tI B t E ∧ B 258 3 = r.2.2.2) ∧ frL A B
theorem lwQ_t {A B : Nat → Nat → Nat} {t : Nat → Nat} {E : Nat} {r : LwS} (h : r.1 = true) (k : kI B t E r.2.2.1) (h3 : B 258 3 = A 258 3) (e : exL A B r.2.1) : lwQ A B t E r := ⟨fun _ => ⟨k, h3, e⟩, fun z => absurd z (by rw [h]; decide), exL_V e⟩
theorem lwQ_f {A B : Nat → Nat → Nat} {t : Nat → Nat} {E : Nat} {r : LwS} (h : r.1 = false) (k : tI B t E) (h3 : B 258 3 = r.2.2.2) (e : frL A B) : lwQ A B t E r := ⟨fun z => absurd z (by rw [h]; decide), fun _ => ⟨k, h3⟩, e⟩
theorem frL_tr {A B C : Nat → Nat → Nat} (h : frL A B) (h2 : frL B C) : frL A C := fun q a b => (h2 q a b).trans (h q a b)
def plL (m : Nat) : List (Nat × Nat) := if m = 0 then [] else [(11, 0)]
def suX (t : Nat → Nat) (E f m i : Nat) : LwS := if (ptS t E i).1 = true then ((smL t E f (ptS t E i).2.2.1).1, (ptS t E i).2.1 ++ (plL m ++ (smL t E f (ptS t E i).2.2.1).2.1), (smL t E f (ptS t E i).2.2.1).2.2) else (false, [], 0, (ptS t E i).2.2.2)
theorem suX_0 {t : Nat → Nat} {E i : Nat} : suS t E i = suX t E 401 0 i := by
  unfold suS suX plL
  rw [if_pos rfl, List.nil_append]
theorem ptS_w {t : Nat → Nat} {E i : Nat} (h : i ≤ E) (k : wpR t (skB t E i) (ltE t E (skB t E i)) ≠ 4294967295) : tkK t E i = 2 ∧ ptS t E i = (true, [(wpR t (skB t E i) (ltE t E (skB t E i)), 0)], tkE t E i, skB t E i) := by
  have k2 : tkK t E i = 2 := by
    rw [← wa_p h] at k
    unfold waN at k
    by_cases z : tkK t E i = 2
    · exact z
    · rw [if_neg z] at k; exact absurd rfl k
  refine ⟨k2, ?_⟩
  unfold ptS
  rw [if_neg ((tkK_2 h).mp k2), tkE_2 k2, decide_eq_false k]
  rfl
theorem ptS_n {A : Nat → Nat → Nat} {t : Nat → Nat} {E i : Nat} (k : kI A t E i) (h : nmV t E i 999 ≠ 4294967295) : A 258 6 = nmV t E i 999 ∧ ptS t E i = (true, [(10, nmV t E i 999)], tkE t E i, skB t E i) := by
  obtain ⟨k1, v6, ke⟩ := tkN_v k h
  refine ⟨v6, ?_⟩
  unfold ptS
  rw [if_pos (Decidable.not_not.mp (_root_.mt (tkK_2 k.2.1).mpr (by omega))), decide_eq_false h, ke]
  rfl
theorem ptS_f {t : Nat → Nat} {E i : Nat} (h : wpR t (skB t E i) (ltE t E (skB t E i)) = 4294967295) (h2 : nmV t E i 999 = 4294967295) : (ptS t E i).1 = false ∧ (ptS t E i).2.2.2 = skB t E i := by
  unfold ptS
  split
  · rw [decide_eq_true h2]; exact ⟨rfl, rfl⟩
  · rw [decide_eq_true h]; exact ⟨rfl, rfl⟩
theorem suS_sk {t : Nat → Nat} {E i : Nat} (h : i ≤ E) : suS t E (skB t E i) = suS t E i := by
  have e : ptS t E (skB t E i) = ptS t E i := by
    unfold ptS nmV nmE
    rw [skB_id h]
  unfold suS
  rw [e]
theorem w75 {X : gv_X} {d : Nat} {G : gv_Sh} {A : Nat → Nat → Nat} {j : Nat → Nat → Int64} {cc : gv_Rs} {P : gv_O × gv_S → Prop} {c : Nat} (hp64 : oX8 G 64) (H : (1 ≤ (A 64 1)) ∧ ((((A 64 1) - 1) < 4294967296) ∧ (((2147483648 ≤ ((A 64 1) - 1)) → P (.inl none, (G, (mI A, j), cc))) ∧ ((((A 64 1) - 1) < 2147483648) → (((A 64 1) - 1) < 2147483648) ∧ (((12 ≤ ((A 64 1) - 1)) → P (.inl none, (G, (mI A, j), cc))) ∧ ((((A 64 1) - 1) < 12) → ((A 64 2) < 4294967296) ∧ (((2147483648 ≤ (A 64 2)) → P (.inl none, (G, (mI A, j), cc))) ∧ (((A 64 2) < 2147483648) → ((A 64 2) < 2147483648) ∧ (((400 ≤ (A 64 2)) → P (.inl none, (G, (mI A, j), cc))) ∧ (((A 64 2) < 400) → ((A 64 2) < 400) ∧ ((((A 64 1) - 1) < 12) ∧ (P (.inl none, (G, (mI (gu (gu (gu A 69 (A 64 2) c) 64 2 ((A 64 2) + 1)) 68 ((A 64 1) - 1) ((A 64 2) + 1)), j), cc)))))))))))))) : EvP X (d + 0) gvm_75 0 (gv_enter [.ref 64, .int (nI c)] 3) [] (G, (mI A, j), cc) P :=
  (pv_aload_n rfl rfl   (pn_getI rfl rfl (oX8_k hp64) rfl   (pn_iconst rfl rfl   (pn_isub rfl H.1  (pv_istore_n rfl rfl   (pv_iload_n rfl rfl   (pn_if_lt rfl H.2.1 (fun c1 => (pv_vret rfl (H.2.2.1 c1))) (fun c1 => (pv_iload_n rfl rfl   (pn_bipush rfl rfl   (pn_ic_ge rfl (H.2.2.2 c1).1 (by decide) (fun c2 => (pv_vret rfl ((H.2.2.2 c1).2.1 c2))) (fun c2 => (pv_aload_n rfl rfl   (pn_getI rfl rfl (oX8_k hp64) rfl   (pn_if_lt rfl ((H.2.2.2 c1).2.2 c2).1 (fun c3 => (pv_vret rfl (((H.2.2.2 c1).2.2 c2).2.1 c3))) (fun c3 => (pv_aload_n rfl rfl   (pn_getI rfl rfl (oX8_k hp64) rfl   (pn_sipush rfl rfl   (pn_ic_ge rfl (((H.2.2.2 c1).2.2 c2).2.2 c3).1 (by decide) (fun c4 => (pv_vret rfl ((((H.2.2.2 c1).2.2 c2).2.2 c3).2.1 c4))) (fun c4 => (pv_aload_n rfl rfl   (pv_getP rfl rfl (oX8_k hp64) (oX8_7 hp64)   (pv_aload_n rfl rfl   (pn_getI rfl rfl (oX8_k hp64) rfl   (pv_iload_n rfl rfl   (pn_iast rfl (oX8_7c hp64) (by decide) ((((H.2.2.2 c1).2.2 c2).2.2 c3).2.2 c4).1  (pv_aload_n rfl rfl   (pv_dup rfl rfl   (pn_getI rfl rfl (oX8_k hp64) (gu_q (by omega) rfl)   (pn_iconst rfl rfl   (pn_iadd rfl   (pn_putI rfl rfl (oX8_k hp64)   (pv_aload_n rfl rfl   (pv_getP rfl rfl (oX8_k hp64) (oX8_6 hp64)   (pv_iload_n rfl rfl   (pv_aload_n rfl rfl   (pn_getI rfl rfl (oX8_k hp64) (gu_hit _ _ _ _)   (pn_iast rfl (oX8_6c hp64) (by decide) ((((H.2.2.2 c1).2.2 c2).2.2 c3).2.2 c4).2.1  (pv_vret rfl ((((H.2.2.2 c1).2.2 c2).2.2 c3).2.2 c4).2.2))))))))))))))))))))))))))))))))))))))))
theorem c_addCode_p {X : gv_X} {d : Nat} {G : gv_Sh} {A : Nat → Nat → Nat} {j : Nat → Nat → Int64} {cc : gv_Rs} {P : gv_O × gv_S → Prop} {c : Nat} (hp64 : oX8 G 64) (p0 : 1 ≤ A 64 1 ∧ A 64 1 ≤ 12) (p1 : A 64 2 < 400) (hP : P (.inl none, (G, (mI (adC A c), j), cc))) : EvP X (d + 0) gvm_75 0 (gv_enter [.ref 64, .int (nI c)] 3) [] (G, (mI A, j), cc) P := by
  exact w75 hp64 ⟨p0.1, by omega, fun c => absurd c (by omega), fun _ => ⟨by omega, fun c => absurd c (by omega), fun _ => ⟨by omega, fun c => absurd c (by omega), fun _ => ⟨by omega, fun c => absurd c (by omega), fun _ => ⟨by omega, by omega, hP⟩⟩⟩⟩⟩
theorem c_addCode {X : gv_X} {d : Nat} {G : gv_Sh} {A : Nat → Nat → Nat} {j : Nat → Nat → Int64} {cc : gv_Rs} {c : Nat} (hp64 : oX8 G 64) (p0 : 1 ≤ A 64 1 ∧ A 64 1 ≤ 12) (p1 : A 64 2 < 400) : Ev X (d + 0) gvm_75 0 (gv_enter [.ref 64, .int (nI c)] 3) [] (G, (mI A, j), cc) (.inl none, (G, (mI (adC A c), j), cc)) := evp_det (c_addCode_p hp64 p0 p1 rfl)
theorem w74 {X : gv_X} {d : Nat} {G : gv_Sh} {A : Nat → Nat → Nat} {j : Nat → Nat → Int64} {cc : gv_Rs} {P : gv_O × gv_S → Prop} {a : Nat} {b : Nat} (hp64 : oX8 G 64) (H : ((A 64 1) < 4294967296) ∧ (((2147483648 ≤ (A 64 1)) → P (.inl none, (G, (mI A, j), cc))) ∧ (((A 64 1) < 2147483648) → ((A 64 1) < 2147483648) ∧ (((12 ≤ (A 64 1)) → P (.inl none, (G, (mI A, j), cc))) ∧ (((A 64 1) < 12) → ((A 64 1) < 12) ∧ (((A 64 1) < 12) ∧ (((A 64 1) < 12) ∧ (((A 64 1) < 12) ∧ (P (.inl none, (G, (mI (gu (gu (gu (gu (gu A 65 (A 64 1) a) 66 (A 64 1) b) 67 (A 64 1) (A 64 2)) 68 (A 64 1) (A 64 2)) 64 1 ((A 64 1) + 1)), j), cc))))))))))) : EvP X (d + 0) gvm_74 0 (gv_enter [.ref 64, .int (nI a), .int (nI b)] 3) [] (G, (mI A, j), cc) P :=
  (pv_aload_n rfl rfl   (pn_getI rfl rfl (oX8_k hp64) rfl   (pn_if_lt rfl H.1 (fun c1 => (pv_vret rfl (H.2.1 c1))) (fun c1 => (pv_aload_n rfl rfl   (pn_getI rfl rfl (oX8_k hp64) rfl   (pn_bipush rfl rfl   (pn_ic_ge rfl (H.2.2 c1).1 (by decide) (fun c2 => (pv_vret rfl ((H.2.2 c1).2.1 c2))) (fun c2 => (pv_aload_n rfl rfl   (pv_getP rfl rfl (oX8_k hp64) (oX8_3 hp64)   (pv_aload_n rfl rfl   (pn_getI rfl rfl (oX8_k hp64) rfl   (pv_iload_n rfl rfl   (pn_iast rfl (oX8_3c hp64) (by decide) ((H.2.2 c1).2.2 c2).1  (pv_aload_n rfl rfl   (pv_getP rfl rfl (oX8_k hp64) (oX8_4 hp64)   (pv_aload_n rfl rfl   (pn_getI rfl rfl (oX8_k hp64) (gu_q (by omega) rfl)   (pv_iload_n rfl rfl   (pn_iast rfl (oX8_4c hp64) (by decide) ((H.2.2 c1).2.2 c2).2.1  (pv_aload_n rfl rfl   (pv_getP rfl rfl (oX8_k hp64) (oX8_5 hp64)   (pv_aload_n rfl rfl   (pn_getI rfl rfl (oX8_k hp64) (gu_q (by omega) (gu_q (by omega) rfl))   (pv_aload_n rfl rfl   (pn_getI rfl rfl (oX8_k hp64) (gu_q (by omega) (gu_q (by omega) rfl))   (pn_iast rfl (oX8_5c hp64) (by decide) ((H.2.2 c1).2.2 c2).2.2.1  (pv_aload_n rfl rfl   (pv_getP rfl rfl (oX8_k hp64) (oX8_6 hp64)   (pv_aload_n rfl rfl   (pn_getI rfl rfl (oX8_k hp64) (gu_q (by omega) (gu_q (by omega) (gu_q (by omega) rfl)))   (pv_aload_n rfl rfl   (pn_getI rfl rfl (oX8_k hp64) (gu_q (by omega) (gu_q (by omega) (gu_q (by omega) rfl)))   (pn_iast rfl (oX8_6c hp64) (by decide) ((H.2.2 c1).2.2 c2).2.2.2.1  (pv_aload_n rfl rfl   (pv_dup rfl rfl   (pn_getI rfl rfl (oX8_k hp64) (gu_q (by omega) (gu_q (by omega) (gu_q (by omega) (gu_q (by omega) rfl))))   (pn_iconst rfl rfl   (pn_iadd rfl   (pn_putI rfl rfl (oX8_k hp64)   (pv_vret rfl ((H.2.2 c1).2.2 c2).2.2.2.2))))))))))))))))))))))))))))))))))))))))))
theorem c_addLine_p {X : gv_X} {d : Nat} {G : gv_Sh} {A : Nat → Nat → Nat} {j : Nat → Nat → Int64} {cc : gv_Rs} {P : gv_O × gv_S → Prop} {a : Nat} {b : Nat} (hp64 : oX8 G 64) (p0 : A 64 1 < 12) (hP : P (.inl none, (G, (mI (adL A a b), j), cc))) : EvP X (d + 0) gvm_74 0 (gv_enter [.ref 64, .int (nI a), .int (nI b)] 3) [] (G, (mI A, j), cc) P := by
  exact w74 hp64 ⟨by omega, fun c => absurd c (by omega), fun _ => ⟨by omega, fun c => absurd c (by omega), fun _ => ⟨by omega, by omega, by omega, by omega, hP⟩⟩⟩
theorem c_addLine {X : gv_X} {d : Nat} {G : gv_Sh} {A : Nat → Nat → Nat} {j : Nat → Nat → Int64} {cc : gv_Rs} {a : Nat} {b : Nat} (hp64 : oX8 G 64) (p0 : A 64 1 < 12) : Ev X (d + 0) gvm_74 0 (gv_enter [.ref 64, .int (nI a), .int (nI b)] 3) [] (G, (mI A, j), cc) (.inl none, (G, (mI (adL A a b), j), cc)) := evp_det (c_addLine_p hp64 p0 rfl)
theorem w33 {X : gv_X} {d : Nat} {G : gv_Sh} {A : Nat → Nat → Nat} {j : Nat → Nat → Int64} {cc : gv_Rs} {P : gv_O × gv_S → Prop}  (hp261 : oX3 G 261) (H : EvP X (d + 3) gvm_33 2 [some (.ref 261), some (.int (nI 0)), none] [] (G, (mI A, j), cc) P) : EvP X (d + 3) gvm_33 0 (gv_enter [.ref 261] 3) [] (G, (mI A, j), cc) P :=
  (pn_iconst rfl rfl   (pv_istore_n rfl rfl   H))
theorem w33_2 {X : gv_X} {d : Nat} {G : gv_Sh} {A : Nat → Nat → Nat} {j : Nat → Nat → Int64} {cc : gv_Rs} {P : gv_O × gv_S → Prop} {l1 : Nat} {l2 : Option Value} {t : Nat → Nat} {E : Nat} {i : Nat} (hp261 : oX3 G 261) (H : (l1 < 2147483648) ∧ (((400 ≤ l1) → (∀ A2 : Nat → Nat → Nat, A2 = (gu A 258 3 (A 258 4)) → P (.inl (some (.int (zo false))), (G, (mI A2, j), cc)))) ∧ ((l1 < 400) → (kI A t E i) ∧ ((1 ≤ 10 ∧ 10 < 11) ∧ (((waN t E i 10) < 4294967296) ∧ (((¬ (waN t E i 10) = 4294967295) → EvP X (d + 3) gvm_33 45 [some (.ref 261), some (.int (nI l1)), some (.int (nI (waN t E i 10)))] [] (G, (mI A, j), cc) P) ∧ (((waN t E i 10) = 4294967295) → (kI A t E i) ∧ ((((!decide (nmV t E i 999 = 4294967295)) = true) → EvP X (d + 3) gvm_33 45 [some (.ref 261), some (.int (nI l1)), some (.int (nI (waN t E i 10)))] [] (G, (mI A, j), cc) P) ∧ (((!decide (nmV t E i 999 = 4294967295)) = false) → (∀ A5 : Nat → Nat → Nat, A5 = (gu A 258 3 (A 258 4)) → P (.inl (some (.int (zo false))), (G, (mI A5, j), cc)))))))))))) : EvP X (d + 3) gvm_33 2 [some (.ref 261), some (.int (nI l1)), l2] [] (G, (mI A, j), cc) P :=
  (pv_iload_n rfl rfl   (pn_sipush rfl rfl   (pn_ic_ge rfl H.1 (by decide) (fun c1 => (pv_aload_n rfl rfl   (pv_getP rfl rfl (oX3_k hp261) (oX3_0 hp261)   (match (⟨(gu A 258 3 (A 258 4)), rfl⟩ : ∃ Z : Nat → Nat → Nat, Z = (gu A 258 3 (A 258 4))) with | ⟨A2, q2⟩ => pv_virt rfl rfl rfl rfl rfl (oX7_k (oX3_0c hp261)) rfl rfl rfl (ev_eqM q2 (c_refuse (A := A) (oX3_0c hp261) )) (pv_iretz rfl rfl (zo_b _) ((H.2.1 c1) A2 q2)))))) (fun c1 => (pv_aload_n rfl rfl   (pv_getP rfl rfl (oX3_k hp261) (oX3_0 hp261)   (pv_ldcS rfl   (pv_virt rfl rfl rfl rfl rfl (oX7_k (oX3_0c hp261)) rfl rfl rfl (c_wordAmong (q := 10) (t := t) (E := E) (i := i) (A := A) (oX3_0c hp261) (H.2.2 c1).1 (H.2.2 c1).2.1 ) (pv_istore_n rfl rfl   (pv_iload_n rfl rfl   (pn_iconst (u := 4294967295) rfl (by decide)   (pn_ic_ne rfl (H.2.2 c1).2.2.1 (by decide) (fun c3 => ((H.2.2 c1).2.2.2.1 c3)) (fun c3 => (pv_aload_n rfl rfl   (pv_getP rfl rfl (oX3_k hp261) (oX3_0 hp261)   (pn_sipush rfl rfl   (pv_virt rfl rfl rfl rfl rfl (oX7_k (oX3_0c hp261)) rfl rfl rfl (c_isNumberTo (m := 999) (t := t) (E := E) (i := i) (A := A) (oX3_0c hp261) ((H.2.2 c1).2.2.2.2 c3).1 (by decide) ) (pv_if_ne_zo rfl  (fun c4 => (((H.2.2 c1).2.2.2.2 c3).2.1 c4)) (fun c4 => (pv_aload_n rfl rfl   (pv_getP rfl rfl (oX3_k hp261) (oX3_0 hp261)   (match (⟨(gu A 258 3 (A 258 4)), rfl⟩ : ∃ Z : Nat → Nat → Nat, Z = (gu A 258 3 (A 258 4))) with | ⟨A5, q5⟩ => pv_virt rfl rfl rfl rfl rfl (oX7_k (oX3_0c hp261)) rfl rfl rfl (ev_eqM q5 (c_refuse (A := A) (oX3_0c hp261) )) (pv_iretz rfl rfl (zo_b _) ((((H.2.2 c1).2.2.2.2 c3).2.2 c4) A5 q5))))))))))))))))))))))))
theorem w33_45 {X : gv_X} {d : Nat} {G : gv_Sh} {A : Nat → Nat → Nat} {j : Nat → Nat → Int64} {cc : gv_Rs} {P : gv_O × gv_S → Prop} {l1 : Nat} {l2 : Nat} (hp261 : oX3 G 261) (H : (l2 < 4294967296) ∧ (((¬ l2 = 4294967295) → (1 ≤ A 64 1 ∧ A 64 1 ≤ 12) ∧ ((A 64 2 < 400) ∧ ((∀ A2 : Nat → Nat → Nat, A2 = (adC A l2) → EvP X (d + 3) gvm_33 72 [some (.ref 261), some (.int (nI l1)), some (.int (nI l2))] [] (G, (mI A2, j), cc) P)))) ∧ ((l2 = 4294967295) → (1 ≤ A 64 1 ∧ A 64 1 ≤ 12) ∧ ((A 64 2 < 400) ∧ ((∀ A3 : Nat → Nat → Nat, A3 = (adC A (1000 + (A 258 6))) → EvP X (d + 3) gvm_33 72 [some (.ref 261), some (.int (nI l1)), some (.int (nI l2))] [] (G, (mI A3, j), cc) P)))))) : EvP X (d + 3) gvm_33 45 [some (.ref 261), some (.int (nI l1)), some (.int (nI l2))] [] (G, (mI A, j), cc) P :=
  (pv_aload_n rfl rfl   (pv_getP rfl rfl (oX3_k hp261) (oX3_1 hp261)   (pv_iload_n rfl rfl   (pn_iconst (u := 4294967295) rfl (by decide)   (pn_ic_ne rfl H.1 (by decide) (fun c1 => (pv_iload_n rfl rfl   (match (⟨(adC A l2), rfl⟩ : ∃ Z : Nat → Nat → Nat, Z = (adC A l2)) with | ⟨A2, q2⟩ => pv_virt rfl rfl rfl rfl rfl (oX8_k (oX3_1c hp261)) rfl rfl rfl (ev_eqM q2 (c_addCode (c := l2) (A := A) (oX3_1c hp261) (H.2.1 c1).1 (H.2.1 c1).2.1 )) ((H.2.1 c1).2.2 A2 q2)))) (fun c1 => (pn_sipush rfl rfl   (pv_aload_n rfl rfl   (pv_getP rfl rfl (oX3_k hp261) (oX3_0 hp261)   (pn_getI rfl rfl (oX7_k (oX3_0c hp261)) rfl   (pn_iadd rfl   (pv_goto rfl (match (⟨(adC A (1000 + (A 258 6))), rfl⟩ : ∃ Z : Nat → Nat → Nat, Z = (adC A (1000 + (A 258 6)))) with | ⟨A3, q3⟩ => pv_virt rfl rfl rfl rfl rfl (oX8_k (oX3_1c hp261)) rfl rfl rfl (ev_eqM q3 (c_addCode (c := (1000 + (A 258 6))) (A := A) (oX3_1c hp261) (H.2.2 c1).1 (H.2.2 c1).2.1 )) ((H.2.2 c1).2.2 A3 q3))))))))))))))
theorem w33_72 {X : gv_X} {d : Nat} {G : gv_Sh} {A : Nat → Nat → Nat} {j : Nat → Nat → Int64} {cc : gv_Rs} {P : gv_O × gv_S → Prop} {l1 : Nat} {l2 : Nat} (hp261 : oX3 G 261) (H : (l1 < 4294967296) ∧ (((l1 = 0 ∨ 2147483648 ≤ l1) → EvP X (d + 3) gvm_33 85 [some (.ref 261), some (.int (nI l1)), some (.int (nI l2))] [] (G, (mI A, j), cc) P) ∧ ((0 < l1 ∧ l1 < 2147483648) → (1 ≤ A 64 1 ∧ A 64 1 ≤ 12) ∧ ((A 64 2 < 400) ∧ ((∀ A2 : Nat → Nat → Nat, A2 = (adC A 20) → EvP X (d + 3) gvm_33 85 [some (.ref 261), some (.int (nI l1)), some (.int (nI l2))] [] (G, (mI A2, j), cc) P)))))) : EvP X (d + 3) gvm_33 72 [some (.ref 261), some (.int (nI l1)), some (.int (nI l2))] [] (G, (mI A, j), cc) P :=
  (pv_iload_n rfl rfl   (pn_if_le rfl H.1 (fun c1 => (H.2.1 c1)) (fun c1 => (pv_aload_n rfl rfl   (pv_getP rfl rfl (oX3_k hp261) (oX3_1 hp261)   (pn_bipush rfl rfl   (match (⟨(adC A 20), rfl⟩ : ∃ Z : Nat → Nat → Nat, Z = (adC A 20)) with | ⟨A2, q2⟩ => pv_virt rfl rfl rfl rfl rfl (oX8_k (oX3_1c hp261)) rfl rfl rfl (ev_eqM q2 (c_addCode (c := 20) (A := A) (oX3_1c hp261) (H.2.2 c1).1 (H.2.2 c1).2.1 )) ((H.2.2 c1).2.2 A2 q2))))))))
theorem w33_85 {X : gv_X} {d : Nat} {G : gv_Sh} {A : Nat → Nat → Nat} {j : Nat → Nat → Int64} {cc : gv_Rs} {P : gv_O × gv_S → Prop} {l1 : Nat} {l2 : Nat} {t : Nat → Nat} {E : Nat} {i : Nat} (hp261 : oX3 G 261) (H : (tI A t E) ∧ ((A 258 2 = (tkE t E i)) ∧ (((tkE t E i) ≤ E) ∧ ((∀ A1v1 : Nat → Nat → Nat, ((kI A1v1 t E (tkE t E i)) ∧ (frR A A1v1)) → (kI A1v1 t E (tkE t E i)) ∧ (((33 ≤ 43 ∧ 43 < 48) ∨ (58 ≤ 43 ∧ 43 < 97)) ∧ ((((sgB t E (tkE t E i) 43) = true) → (tI A1v1 t E) ∧ ((A1v1 258 2 = (tkE t E (tkE t E i))) ∧ (((tkE t E (tkE t E i)) ≤ E) ∧ ((∀ A1v3 : Nat → Nat → Nat, ((kI A1v3 t E (tkE t E (tkE t E i))) ∧ (frR A1v1 A1v3)) → EvP X (d + 3) gvm_33 2 [some (.ref 261), some (.int (nI (l1 + 1))), some (.int (nI l2))] [] (G, (mI A1v3, j), cc) P))))) ∧ (((sgB t E (tkE t E i) 43) = false) → P (.inl (some (.int (nI 1))), (G, (mI A1v1, j), cc)))))))))) : EvP X (d + 3) gvm_33 85 [some (.ref 261), some (.int (nI l1)), some (.int (nI l2))] [] (G, (mI A, j), cc) P :=
  (pv_aload_n rfl rfl   (pv_getP rfl rfl (oX3_k hp261) (oX3_0 hp261)   (match (c_step (t := t) (E := E) (i := (tkE t E i)) (A := A) (X := X) (d := d + 0) (G := G) (j := j) (cc := cc) (oX3_0c hp261) H.1 H.2.1 H.2.2.1 ) with | ⟨A1v1, e3x89, h1⟩ => pv_virt rfl rfl rfl rfl rfl (oX7_k (oX3_0c hp261)) rfl rfl rfl e3x89 (pv_aload_n rfl rfl   (pv_getP rfl rfl (oX3_k hp261) (oX3_0 hp261)   (pn_bipush rfl rfl   (pv_virt rfl rfl rfl rfl rfl (oX7_k (oX3_0c hp261)) rfl rfl rfl (c_isSign (c := 43) (t := t) (E := E) (i := (tkE t E i)) (A := A1v1) (oX3_0c hp261) (H.2.2.2 A1v1 h1).1 (H.2.2.2 A1v1 h1).2.1 ) (pv_if_ne_zo rfl  (fun c2 => (pv_aload_n rfl rfl   (pv_getP rfl rfl (oX3_k hp261) (oX3_0 hp261)   (match (c_step (t := t) (E := E) (i := (tkE t E (tkE t E i))) (A := A1v1) (X := X) (d := d + 0) (G := G) (j := j) (cc := cc) (oX3_0c hp261) ((H.2.2.2 A1v1 h1).2.2.1 c2).1 ((H.2.2.2 A1v1 h1).2.2.1 c2).2.1 ((H.2.2.2 A1v1 h1).2.2.1 c2).2.2.1 ) with | ⟨A1v3, e3x110, h3⟩ => pv_virt rfl rfl rfl rfl rfl (oX7_k (oX3_0c hp261)) rfl rfl rfl e3x110 (pn_iinc rfl rfl rfl rfl   (pv_goto rfl (((H.2.2.2 A1v1 h1).2.2.1 c2).2.2.2 A1v3 h3))))))) (fun c2 => (pn_iconst rfl rfl   (pv_iretz rfl rfl (Or.inr rfl) ((H.2.2.2 A1v1 h1).2.2.2 c2))))))))))))
theorem c_readSum_p {X : gv_X} {d : Nat} {G : gv_Sh} {A : Nat → Nat → Nat} {j : Nat → Nat → Int64} {cc : gv_Rs} {P : gv_O × gv_S → Prop} {t : Nat → Nat} {E : Nat} {i : Nat} (hp261 : oX3 G 261) (p0 : kI A t E i) (p1 : lnI A) (p2 : A 64 2 + 1 ≤ i) (hP : ∀ A1 : Nat → Nat → Nat, (lwQ A A1 t E (suS t E i)) → P (.inl (some (.int (zo ((suS t E i).1)))), (G, (mI A1, j), cc))) : EvP X (d + 3) gvm_33 0 (gv_enter [.ref 261] 3) [] (G, (mI A, j), cc) P := by
  obtain ⟨r, hr⟩ : ∃ r, r = suS t E i := ⟨_, rfl⟩
  rw [← hr] at hP
  have hE := p0.1.2.1
  have L : ∀ f m i B cs l2, m + f = 401 → 2 * m ≤ i → kI B t E i → exL A B cs → A 64 2 + cs.length + 1 + (plL m).length ≤ i → B 258 3 = A 258 3 → r.1 = (suX t E f m i).1 → r.2.2 = (suX t E f m i).2.2 → ((suX t E f m i).1 = true → r.2.1 = cs ++ (suX t E f m i).2.1) → EvP X (d + 3) gvm_33 2 [some (.ref 261), some (.int (nI m)), l2] [] (G, (mI B, j), cc) P := by
    intro f
    induction f with
    | zero => intro m i B cs l2 e1 e2 k; have := k.2.1; omega
    | succ f ih =>
      intro m i B cs l2 e1 e2 k ex hb h3 r1 r2 r3
      have iE := k.2.1
      have ln := lnI_ex p1 ex
      have b2 : B 64 2 = A 64 2 + cs.length := ex.1
      have be := tkE_b (t := t) iE
      -- a part is read: its code is (c, v)
      have K85 : ∀ c v D l2, ptS t E i = (true, [(c, v)], tkE t E i, skB t E i) → kI D t E i → D 258 3 = A 258 3 → exL A D (cs ++ ([(c, v)] ++ plL m)) → EvP X (d + 3) gvm_33 85 [some (.ref 261), some (.int (nI m)), some (.int (nI l2))] [] (G, (mI D, j), cc) P := fun c v D l2 hp kD d3 eD => by
        have pb := ptS_b (t := t) iE (by rw [hp])
        rw [hp] at pb
        have pb1 : i + 1 ≤ tkE t E i := pb.1
        have sx : suX t E (f + 1) m i = ((smL t E (f + 1) (tkE t E i)).1, [(c, v)] ++ (plL m ++ (smL t E (f + 1) (tkE t E i)).2.1), (smL t E (f + 1) (tkE t E i)).2.2) := by
          unfold suX; rw [hp, if_pos rfl]
        have st : smL t E (f + 1) (tkE t E i) = if sgB t E (tkE t E i) 43 = true then (if (ptS t E (sgE t E (tkE t E i) 43)).1 = true then ((smL t E f (ptS t E (sgE t E (tkE t E i) 43)).2.2.1).1, (ptS t E (sgE t E (tkE t E i) 43)).2.1 ++ ([(11, 0)] ++ (smL t E f (ptS t E (sgE t E (tkE t E i) 43)).2.2.1).2.1), (smL t E f (ptS t E (sgE t E (tkE t E i) 43)).2.2.1).2.2) else (false, [], 0, (ptS t E (sgE t E (tkE t E i) 43)).2.2.2)) else (true, [], skB t E (tkE t E i), skB t E (tkE t E i)) := rfl
        have sb := skB_b (t := t) be.2
        have b2 := tkE_b (t := t) be.2
        refine w33_85 (t := t) (E := E) (i := i) hp261 ⟨kD.1, kD.2.2.2.1, be.2, fun F hF => ⟨hF.1, by decide, fun c1 => ⟨hF.1.1, hF.1.2.2.2.1, b2.2, fun K hK => ?_⟩, fun c1 => ?_⟩⟩
        · have e2 := (tkK_s be.2 (by omega) c1).2
          have e3 : sgE t E (tkE t E i) 43 = tkE t E (tkE t E i) := by unfold sgE; rw [if_pos c1, e2]
          have sm : smL t E (f + 1) (tkE t E i) = suX t E f (m + 1) (tkE t E (tkE t E i)) := by
            rw [st, if_pos c1, e3]
            unfold suX plL
            rw [if_neg (show ¬ m + 1 = 0 by omega)]
          rw [sx, sm] at r1 r2 r3
          have pl1 : (plL (m + 1)).length = 1 := by unfold plL; rw [if_neg (by omega)]; rfl
          refine ih (m + 1) (tkE t E (tkE t E i)) K (cs ++ ([(c, v)] ++ plL m)) _ (by omega) (by omega) hK.1 (exL_fr (exL_fr eD hF.2.1) hK.2.1) ?_ ((frR_3 hK.2).trans ((frR_3 hF.2).trans d3)) r1 r2 (fun z => ?_)
          · rw [List.length_append, List.length_append, pl1]
            show A 64 2 + (cs.length + (1 + (plL m).length)) + 1 + 1 ≤ _
            omega
          · rw [r3 z, List.append_assoc, List.append_assoc]
        · rw [sx, st, if_neg (by rw [c1]; decide)] at r1 r2 r3
          refine qz1 (hP F (lwQ_t r1 ?_ ((frR_3 hF.2).trans d3) ?_)) r1
          · rw [r2]
            exact kI_sk hF.1 (skB_id be.2) sb.2
          · rw [r3 rfl, List.append_nil]
            exact exL_fr eD hF.2.1
      have K72 : ∀ c v x l2, cdN c v = x → ptS t E i = (true, [(c, v)], tkE t E i, skB t E i) → EvP X (d + 3) gvm_33 72 [some (.ref 261), some (.int (nI m)), some (.int (nI l2))] [] (G, (mI (adC B x), j), cc) P := fun c v x l2 hx hp => by
        have pb := ptS_b (t := t) iE (by rw [hp])
        rw [hp] at pb
        have pb1 : i + 1 ≤ tkE t E i := pb.1
        have e1 : exL A (adC B x) (cs ++ [(c, v)]) := exL_app ex (exL_ad hx)
        have l1 := lnI_ex p1 e1
        have kA : kI (adC B x) t E i := kI_ad k
        have h3' : adC B x 258 3 = A 258 3 := by rw [adC_q (by decide) (by decide) (by decide)]; exact h3
        have s2 : adC B x 64 2 = A 64 2 + (cs ++ [(c, v)]).length := e1.1
        rw [List.length_append] at s2
        refine w33_72 hp261 ⟨by omega, fun c1 => ?_, fun c1 => ⟨⟨l1.1, l1.2.1⟩, ?_, fun D hD => ?_⟩⟩
        · have pl : plL m = [] := by unfold plL; rw [if_pos (by omega)]
          refine K85 c v _ _ hp kA h3' ?_
          rw [pl, List.append_nil]; exact e1
        · have pl : plL m = [(11, 0)] := by unfold plL; rw [if_neg (by omega)]
          rw [pl] at hb
          have hb' : A 64 2 + cs.length + 1 + 1 ≤ i := hb
          rw [s2]
          show A 64 2 + (cs.length + 1) < 400
          omega
        · have pl : plL m = [(11, 0)] := by unfold plL; rw [if_neg (by omega)]
          rw [hD]
          refine K85 c v _ _ hp (kI_ad kA) (by rw [adC_q (by decide) (by decide) (by decide)]; exact h3') ?_
          rw [pl, ← List.append_assoc]
          exact exL_app e1 (exL_ad rfl)
      refine w33_2 (t := t) (E := E) (i := i) hp261 ?_
      rw [wa_p iE]
      have wpl : wpR t (skB t E i) (ltE t E (skB t E i)) = 4294967295 ∨ wpR t (skB t E i) (ltE t E (skB t E i)) ≤ 6 := by
        unfold wpR; (repeat' split) <;> omega
      refine ⟨by omega, fun c => absurd c (by omega), fun _ => ⟨k, by decide, by omega, fun c1 => ?_, fun c1 => ⟨k, fun c2 => ?_, fun c2 C hC => ?_⟩⟩⟩
      · refine w33_45 hp261 ⟨by omega, fun c3 => ⟨⟨ln.1, ln.2.1⟩, by omega, fun C hC => ?_⟩, fun c3 => absurd c3 c1⟩
        rw [hC]
        refine K72 _ 0 _ _ ?_ (ptS_w iE c1).2
        unfold cdN; rw [if_pos (by omega)]
      · have nv := nd_t c2
        obtain ⟨v6, hp⟩ := ptS_n k nv
        refine w33_45 hp261 ⟨by omega, fun c3 => absurd c1 c3, fun c3 => ⟨⟨ln.1, ln.2.1⟩, by omega, fun C hC => ?_⟩⟩
        rw [hC, v6]
        exact K72 10 _ _ _ rfl hp
      · have nv := nd_f c2
        obtain ⟨q1, q2⟩ := ptS_f c1 nv
        obtain ⟨u1, u2, u3⟩ := ref_k k hC
        have sx : suX t E (f + 1) m i = (false, [], 0, skB t E i) := by
          unfold suX; rw [if_neg (by rw [q1]; decide), q2]
        rw [sx] at r1 r2
        have r1' : r.1 = false := r1
        rw [← r1']
        refine hP C (lwQ_f r1' u1 ?_ (fun q a b => (u3 q b).trans (exL_V ex q a b)))
        rw [r2]; exact u2
  refine w33 hp261 (L 401 0 i A [] none rfl (by omega) p0 (exL_nil p1 (fun _ _ => rfl)) ?_ rfl (by rw [hr, suX_0]) (by rw [hr, suX_0]) (fun _ => by rw [hr, suX_0]; rfl))
  show A 64 2 + 0 + 1 + 0 ≤ i
  omega
theorem c_readSum {X : gv_X} {d : Nat} {G : gv_Sh} {A : Nat → Nat → Nat} {j : Nat → Nat → Int64} {cc : gv_Rs} {t : Nat → Nat} {E : Nat} {i : Nat} (hp261 : oX3 G 261) (p0 : kI A t E i) (p1 : lnI A) (p2 : A 64 2 + 1 ≤ i) : ∃ A1 : Nat → Nat → Nat, Ev X (d + 3) gvm_33 0 (gv_enter [.ref 261] 3) [] (G, (mI A, j), cc) (.inl (some (.int (zo ((suS t E i).1)))), (G, (mI A1, j), cc)) ∧ (lwQ A A1 t E (suS t E i)) := by
  obtain ⟨_, h, A1, rfl, hp⟩ := c_readSum_p (X := X) (d := d) (G := G) (A := A) (j := j) (cc := cc) (t := t) (E := E) (i := i) (P := fun r => ∃ A1 : Nat → Nat → Nat, r = (.inl (some (.int (zo ((suS t E i).1)))), (G, (mI A1, j), cc)) ∧ (lwQ A A1 t E (suS t E i))) hp261 p0 p1 p2 (fun A1 h => ⟨A1, rfl, h⟩)
  exact ⟨A1, h, hp⟩
theorem w32 {X : gv_X} {d : Nat} {G : gv_Sh} {A : Nat → Nat → Nat} {j : Nat → Nat → Int64} {cc : gv_Rs} {P : gv_O × gv_S → Prop} {t : Nat → Nat} {E : Nat} {i : Nat} (hp261 : oX3 G 261) (H : (kI A t E i) ∧ ((lnI A) ∧ ((A 64 2 + 1 ≤ i) ∧ ((∀ A1v1 : Nat → Nat → Nat, ((lwQ A A1v1 t E (suS t E i))) → ((((suS t E i).1) = true) → (kI A1v1 t E (suS t E i).2.2.1) ∧ (((33 ≤ 60 ∧ 60 < 48) ∨ (58 ≤ 60 ∧ 60 < 97)) ∧ ((((sgB t E (suS t E i).2.2.1 60) = true) → EvP X (d + 4) gvm_32 43 [some (.ref 261), some (.int (zo (sgB t E (suS t E i).2.2.1 60)))] [] (G, (mI A1v1, j), cc) P) ∧ (((sgB t E (suS t E i).2.2.1 60) = false) → (kI A1v1 t E (suS t E i).2.2.1) ∧ (((33 ≤ 62 ∧ 62 < 48) ∨ (58 ≤ 62 ∧ 62 < 97)) ∧ ((((sgB t E (suS t E i).2.2.1 62) = true) → EvP X (d + 4) gvm_32 43 [some (.ref 261), some (.int (zo (sgB t E (suS t E i).2.2.1 60)))] [] (G, (mI A1v1, j), cc) P) ∧ (((sgB t E (suS t E i).2.2.1 62) = false) → (∀ A5 : Nat → Nat → Nat, A5 = (gu A1v1 258 3 (A1v1 258 4)) → P (.inl (some (.int (zo false))), (G, (mI A5, j), cc)))))))))) ∧ ((((suS t E i).1) = false) → P (.inl (some (.int (nI 0))), (G, (mI A1v1, j), cc)))))))) : EvP X (d + 4) gvm_32 0 (gv_enter [.ref 261] 2) [] (G, (mI A, j), cc) P :=
  (pv_aload_n rfl rfl   (match (c_readSum (t := t) (E := E) (i := i) (A := A) (X := X) (d := d + 0) (G := G) (j := j) (cc := cc) hp261 H.1 H.2.1 H.2.2.1 ) with | ⟨A1v1, e4x1, h1⟩ => pv_virt rfl rfl rfl rfl rfl (oX3_k hp261) rfl rfl rfl e4x1 (pv_if_ne_zo rfl  (fun c2 => (pv_aload_n rfl rfl   (pv_getP rfl rfl (oX3_k hp261) (oX3_0 hp261)   (pn_bipush rfl rfl   (pv_virt rfl rfl rfl rfl rfl (oX7_k (oX3_0c hp261)) rfl rfl rfl (c_isSign (c := 60) (t := t) (E := E) (i := (suS t E i).2.2.1) (A := A1v1) (oX3_0c hp261) ((H.2.2.2 A1v1 h1).1 c2).1 ((H.2.2.2 A1v1 h1).1 c2).2.1 ) (pv_istore_n rfl rfl   (pv_iload_n rfl rfl   (pv_if_ne_zo rfl  (fun c3 => (((H.2.2.2 A1v1 h1).1 c2).2.2.1 c3)) (fun c3 => (pv_aload_n rfl rfl   (pv_getP rfl rfl (oX3_k hp261) (oX3_0 hp261)   (pn_bipush rfl rfl   (pv_virt rfl rfl rfl rfl rfl (oX7_k (oX3_0c hp261)) rfl rfl rfl (c_isSign (c := 62) (t := t) (E := E) (i := (suS t E i).2.2.1) (A := A1v1) (oX3_0c hp261) (((H.2.2.2 A1v1 h1).1 c2).2.2.2 c3).1 (((H.2.2.2 A1v1 h1).1 c2).2.2.2 c3).2.1 ) (pv_if_ne_zo rfl  (fun c4 => ((((H.2.2.2 A1v1 h1).1 c2).2.2.2 c3).2.2.1 c4)) (fun c4 => (pv_aload_n rfl rfl   (pv_getP rfl rfl (oX3_k hp261) (oX3_0 hp261)   (match (⟨(gu A1v1 258 3 (A1v1 258 4)), rfl⟩ : ∃ Z : Nat → Nat → Nat, Z = (gu A1v1 258 3 (A1v1 258 4))) with | ⟨A5, q5⟩ => pv_virt rfl rfl rfl rfl rfl (oX7_k (oX3_0c hp261)) rfl rfl rfl (ev_eqM q5 (c_refuse (A := A1v1) (oX3_0c hp261) )) (pv_iretz rfl rfl (zo_b _) (((((H.2.2.2 A1v1 h1).1 c2).2.2.2 c3).2.2.2 c4) A5 q5)))))))))))))))))))) (fun c2 => (pn_iconst rfl rfl   (pv_iretz rfl rfl (Or.inl rfl) ((H.2.2.2 A1v1 h1).2 c2)))))))
theorem w32_43 {X : gv_X} {d : Nat} {G : gv_Sh} {A : Nat → Nat → Nat} {j : Nat → Nat → Int64} {cc : gv_Rs} {P : gv_O × gv_S → Prop} {l1 : Bool} {t : Nat → Nat} {E : Nat} {i : Nat} (hp261 : oX3 G 261) (H : (tI A t E) ∧ ((A 258 2 = (tkE t E i)) ∧ (((tkE t E i) ≤ E) ∧ ((∀ A1v1 : Nat → Nat → Nat, ((kI A1v1 t E (tkE t E i)) ∧ (frR A A1v1)) → (kI A1v1 t E (tkE t E i)) ∧ ((lnI A1v1) ∧ ((A1v1 64 2 + 1 ≤ (tkE t E i)) ∧ ((∀ A1v2 : Nat → Nat → Nat, ((lwQ A1v1 A1v2 t E (suS t E (tkE t E i)))) → ((((suS t E (tkE t E i)).1) = true) → ((l1 = false) → (1 ≤ A1v2 64 1 ∧ A1v2 64 1 ≤ 12) ∧ ((A1v2 64 2 < 400) ∧ ((∀ A5 : Nat → Nat → Nat, A5 = (adC A1v2 22) → P (.inl (some (.int (nI 1))), (G, (mI A5, j), cc)))))) ∧ ((l1 = true) → (1 ≤ A1v2 64 1 ∧ A1v2 64 1 ≤ 12) ∧ ((A1v2 64 2 < 400) ∧ ((∀ A6 : Nat → Nat → Nat, A6 = (adC A1v2 21) → P (.inl (some (.int (nI 1))), (G, (mI A6, j), cc))))))) ∧ ((((suS t E (tkE t E i)).1) = false) → P (.inl (some (.int (nI 0))), (G, (mI A1v2, j), cc)))))))))))) : EvP X (d + 4) gvm_32 43 [some (.ref 261), some (.int (zo l1))] [] (G, (mI A, j), cc) P :=
  (pv_aload_n rfl rfl   (pv_getP rfl rfl (oX3_k hp261) (oX3_0 hp261)   (match (c_step (t := t) (E := E) (i := (tkE t E i)) (A := A) (X := X) (d := d + 1) (G := G) (j := j) (cc := cc) (oX3_0c hp261) H.1 H.2.1 H.2.2.1 ) with | ⟨A1v1, e4x47, h1⟩ => pv_virt rfl rfl rfl rfl rfl (oX7_k (oX3_0c hp261)) rfl rfl rfl e4x47 (pv_aload_n rfl rfl   (match (c_readSum (t := t) (E := E) (i := (tkE t E i)) (A := A1v1) (X := X) (d := d + 0) (G := G) (j := j) (cc := cc) hp261 (H.2.2.2 A1v1 h1).1 (H.2.2.2 A1v1 h1).2.1 (H.2.2.2 A1v1 h1).2.2.1 ) with | ⟨A1v2, e4x51, h2⟩ => pv_virt rfl rfl rfl rfl rfl (oX3_k hp261) rfl rfl rfl e4x51 (pv_if_ne_zo rfl  (fun c3 => (pv_aload_n rfl rfl   (pv_getP rfl rfl (oX3_k hp261) (oX3_1 hp261)   (pv_iload_n rfl rfl   (pv_if_eq_zo rfl  (fun c4 => (pn_bipush rfl rfl   (match (⟨(adC A1v2 22), rfl⟩ : ∃ Z : Nat → Nat → Nat, Z = (adC A1v2 22)) with | ⟨A5, q5⟩ => pv_virt rfl rfl rfl rfl rfl (oX8_k (oX3_1c hp261)) rfl rfl rfl (ev_eqM q5 (c_addCode (c := 22) (A := A1v2) (oX3_1c hp261) ((((H.2.2.2 A1v1 h1).2.2.2 A1v2 h2).1 c3).1 c4).1 ((((H.2.2.2 A1v1 h1).2.2.2 A1v2 h2).1 c3).1 c4).2.1 )) (pn_iconst rfl rfl   (pv_iretz rfl rfl (Or.inr rfl) (((((H.2.2.2 A1v1 h1).2.2.2 A1v2 h2).1 c3).1 c4).2.2 A5 q5)))))) (fun c4 => (pn_bipush rfl rfl   (pv_goto rfl (match (⟨(adC A1v2 21), rfl⟩ : ∃ Z : Nat → Nat → Nat, Z = (adC A1v2 21)) with | ⟨A6, q6⟩ => pv_virt rfl rfl rfl rfl rfl (oX8_k (oX3_1c hp261)) rfl rfl rfl (ev_eqM q6 (c_addCode (c := 21) (A := A1v2) (oX3_1c hp261) ((((H.2.2.2 A1v1 h1).2.2.2 A1v2 h2).1 c3).2 c4).1 ((((H.2.2.2 A1v1 h1).2.2.2 A1v2 h2).1 c3).2 c4).2.1 )) (pn_iconst rfl rfl   (pv_iretz rfl rfl (Or.inr rfl) (((((H.2.2.2 A1v1 h1).2.2.2 A1v2 h2).1 c3).2 c4).2.2 A6 q6)))))))))))) (fun c3 => (pn_iconst rfl rfl   (pv_iretz rfl rfl (Or.inl rfl) (((H.2.2.2 A1v1 h1).2.2.2 A1v2 h2).2 c3))))))))))
theorem c_readComparison_p {X : gv_X} {d : Nat} {G : gv_Sh} {A : Nat → Nat → Nat} {j : Nat → Nat → Int64} {cc : gv_Rs} {P : gv_O × gv_S → Prop} {t : Nat → Nat} {E : Nat} {i : Nat} (hp261 : oX3 G 261) (p0 : kI A t E i) (p1 : lnI A) (p2 : A 64 2 + 1 ≤ i) (hP : ∀ A1 : Nat → Nat → Nat, (lwQ A A1 t E (cmS t E i)) → P (.inl (some (.int (zo ((cmS t E i).1)))), (G, (mI A1, j), cc))) : EvP X (d + 4) gvm_32 0 (gv_enter [.ref 261] 2) [] (G, (mI A, j), cc) P := by
  obtain ⟨r, hr⟩ : ∃ r, r = cmS t E i := ⟨_, rfl⟩
  rw [← hr] at hP
  obtain ⟨s, hs⟩ : ∃ s, s = suS t E i := ⟨_, rfl⟩
  have hE := p0.1.2.1
  have iE := p0.2.1
  have er : r = if s.1 = true then (if sgB t E s.2.2.1 60 = true then (if (suS t E (sgE t E s.2.2.1 60)).1 = true then (true, s.2.1 ++ ((suS t E (sgE t E s.2.2.1 60)).2.1 ++ [(12, 0)]), (suS t E (sgE t E s.2.2.1 60)).2.2) else (false, [], 0, (suS t E (sgE t E s.2.2.1 60)).2.2.2)) else if sgB t E s.2.2.1 62 = true then (if (suS t E (sgE t E s.2.2.1 62)).1 = true then (true, s.2.1 ++ ((suS t E (sgE t E s.2.2.1 62)).2.1 ++ [(13, 0)]), (suS t E (sgE t E s.2.2.1 62)).2.2) else (false, [], 0, (suS t E (sgE t E s.2.2.1 62)).2.2.2)) else (false, [], 0, skB t E s.2.2.1)) else (false, [], 0, s.2.2.2) := by
    rw [hr]; unfold cmS; rw [suS_sk iE, ← hs]
  refine w32 (t := t) (E := E) (i := i) hp261 ?_
  rw [← hs]
  refine ⟨p0, p1, p2, fun B hB => ⟨fun c1 => ?_, fun c1 => ?_⟩⟩
  · obtain ⟨kB, b3, exB⟩ := hB.1 c1
    rw [if_pos c1] at er
    have sb : i + s.2.1.length ≤ s.2.2.1 ∧ s.2.2.1 ≤ E := by rw [hs]; exact suS_b iE (by rw [← hs]; exact c1)
    have lnB := lnI_ex p1 exB
    have b2 : B 64 2 = A 64 2 + s.2.1.length := exB.1
    have be := tkE_b (t := t) sb.2
    have K : ∀ (b : Bool) c, (33 ≤ c ∧ c < 48) ∨ (58 ≤ c ∧ c < 97) → sgB t E s.2.2.1 c = true → r = (if (suS t E (sgE t E s.2.2.1 c)).1 = true then (true, s.2.1 ++ ((suS t E (sgE t E s.2.2.1 c)).2.1 ++ [(if b = true then 12 else 13, 0)]), (suS t E (sgE t E s.2.2.1 c)).2.2) else (false, [], 0, (suS t E (sgE t E s.2.2.1 c)).2.2.2)) → EvP X (d + 4) gvm_32 43 [some (.ref 261), some (.int (zo b))] [] (G, (mI B, j), cc) P := fun b c hc hg e => by
      have e2 := (tkK_s sb.2 hc hg).2
      have e3 : sgE t E s.2.2.1 c = tkE t E s.2.2.1 := by unfold sgE; rw [if_pos hg, e2]
      have gb := skB_b (t := t) sb.2
      rw [e3] at e
      refine w32_43 (i := s.2.2.1) hp261 ⟨kB.1, kB.2.2.2.1, be.2, fun C hC => ⟨hC.1, ?_, ?_, fun D hD => ⟨fun c4 => ?_, fun c4 => ?_⟩⟩⟩
      · exact lnI_ex p1 (exL_fr exB hC.2.1)
      · rw [hC.2.1 64 (by decide)]; omega
      · obtain ⟨kD, d3, exD⟩ := hD.1 c4
        rw [if_pos c4] at e
        have sb2 := suS_b be.2 c4
        have exA := exL_app (exL_fr exB hC.2.1) exD
        have lnD := lnI_ex p1 exA
        have d2 : D 64 2 = A 64 2 + (s.2.1 ++ (suS t E (tkE t E s.2.2.1)).2.1).length := exA.1
        rw [List.length_append] at d2
        have d3' : D 258 3 = A 258 3 := d3.trans ((frR_3 hC.2).trans b3)
        have fin : ∀ x, cdN (if b = true then 12 else 13) 0 = x → P (.inl (some (.int (nI 1))), (G, (mI (adC D x), j), cc)) := fun x hx => by
          refine qz1 (hP _ (lwQ_t (by rw [e]) ?_ ?_ ?_)) (by rw [e])
          · rw [e]; exact kI_ad kD
          · rw [adC_q (by decide) (by decide) (by decide)]; exact d3'
          · rw [e]
            show exL A (adC D x) (s.2.1 ++ ((suS t E (tkE t E s.2.2.1)).2.1 ++ [(if b = true then 12 else 13, 0)]))
            rw [← List.append_assoc]
            exact exL_app exA (exL_ad hx)
        refine ⟨fun c5 => ⟨⟨lnD.1, lnD.2.1⟩, by omega, fun F hF => ?_⟩, fun c5 => ⟨⟨lnD.1, lnD.2.1⟩, by omega, fun F hF => ?_⟩⟩
        all_goals (rw [hF]; exact fin _ (by subst c5; rfl))
      · obtain ⟨tD, d3⟩ := hD.2.1 c4
        rw [if_neg (by rw [c4]; decide)] at e
        refine qz0 (hP D (lwQ_f (by rw [e]) tD (by rw [e]; exact d3) ?_)) (by rw [e])
        exact frL_tr (exL_V exB) (frL_tr (fun q a b => hC.2.1 q b) hD.2.2)
    refine ⟨kB, by decide, fun c2 => ?_, fun c2 => ⟨kB, by decide, fun c3 => ?_, fun c3 C hC => ?_⟩⟩
    · rw [c2]
      refine K true 60 (by decide) c2 ?_
      rw [er, if_pos c2, if_pos rfl]
    · rw [c2]
      refine K false 62 (by decide) c3 ?_
      rw [er, if_neg (by rw [c2]; decide), if_pos c3]
      rfl
    · rw [if_neg (by rw [c2]; decide), if_neg (by rw [c3]; decide)] at er
      obtain ⟨u1, u2, u3⟩ := ref_k kB hC
      have r1 : r.1 = false := by rw [er]
      rw [← r1]
      refine hP C (lwQ_f r1 u1 (by rw [er]; exact u2) (fun q a b => (u3 q b).trans (exL_V exB q a b)))
  · obtain ⟨tB, b3⟩ := hB.2.1 c1
    rw [if_neg (by rw [c1]; decide)] at er
    exact qz0 (hP B (lwQ_f (by rw [er]) tB (by rw [er]; exact b3) hB.2.2)) (by rw [er])
theorem c_readComparison {X : gv_X} {d : Nat} {G : gv_Sh} {A : Nat → Nat → Nat} {j : Nat → Nat → Int64} {cc : gv_Rs} {t : Nat → Nat} {E : Nat} {i : Nat} (hp261 : oX3 G 261) (p0 : kI A t E i) (p1 : lnI A) (p2 : A 64 2 + 1 ≤ i) : ∃ A1 : Nat → Nat → Nat, Ev X (d + 4) gvm_32 0 (gv_enter [.ref 261] 2) [] (G, (mI A, j), cc) (.inl (some (.int (zo ((cmS t E i).1)))), (G, (mI A1, j), cc)) ∧ (lwQ A A1 t E (cmS t E i)) := by
  obtain ⟨_, h, A1, rfl, hp⟩ := c_readComparison_p (X := X) (d := d) (G := G) (A := A) (j := j) (cc := cc) (t := t) (E := E) (i := i) (P := fun r => ∃ A1 : Nat → Nat → Nat, r = (.inl (some (.int (zo ((cmS t E i).1)))), (G, (mI A1, j), cc)) ∧ (lwQ A A1 t E (cmS t E i))) hp261 p0 p1 p2 (fun A1 h => ⟨A1, rfl, h⟩)
  exact ⟨A1, h, hp⟩
