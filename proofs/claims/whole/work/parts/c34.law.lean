/-! the class: codes, sums and comparisons of the law -/
def adC (A : Nat → Nat → Nat) (c : Nat) : Nat → Nat → Nat := gu (gu (gu A 69 (A 64 2) c) 64 2 (A 64 2 + 1)) 68 (A 64 1 - 1) (A 64 2 + 1)
def adL (A : Nat → Nat → Nat) (a b : Nat) : Nat → Nat → Nat := gu (gu (gu (gu (gu A 65 (A 64 1) a) 66 (A 64 1) b) 67 (A 64 1) (A 64 2)) 68 (A 64 1) (A 64 2)) 64 1 (A 64 1 + 1)
def gtC : List (Nat × Nat) → Nat → Nat × Nat
  | [], _ => (0, 0)
  | x :: _, 0 => x
  | _ :: l, k + 1 => gtC l k
theorem gtC_l : ∀ {l m : List (Nat × Nat)} {k : Nat}, k < l.length → gtC (l ++ m) k = gtC l k
  | [], _, _, h => absurd h (Nat.not_lt_zero _)
  | _ :: _, _, 0, _ => rfl
  | _ :: l, m, k + 1, h => gtC_l (l := l) (m := m) (k := k) (Nat.lt_of_succ_lt_succ h)
theorem gtC_r : ∀ {l m : List (Nat × Nat)} {k : Nat}, gtC (l ++ m) (l.length + k) = gtC m k
  | [], m, k => by rw [List.nil_append, List.length_nil, Nat.zero_add]
  | x :: l, m, k => by
    show gtC (x :: (l ++ m)) (l.length + 1 + k) = _
    rw [show l.length + 1 + k = (l.length + k) + 1 by omega]
    exact gtC_r (l := l)
/-- a line is begun -/
def lnI (A : Nat → Nat → Nat) : Prop := 1 ≤ A 64 1 ∧ A 64 1 ≤ 12 ∧ A 68 (A 64 1 - 1) = A 64 2
/-- with these codes more -/
def exL (A B : Nat → Nat → Nat) (cs : List (Nat × Nat)) : Prop := B 64 2 = A 64 2 + cs.length ∧ (∀ k, k < A 64 2 → B 69 k = A 69 k) ∧ (∀ k, k < cs.length → B 69 (A 64 2 + k) = cdN (gtC cs k).1 (gtC cs k).2) ∧ B 68 (A 64 1 - 1) = B 64 2 ∧ (∀ x, x ≠ A 64 1 - 1 → B 68 x = A 68 x) ∧ (∀ k, k ≠ 2 → B 64 k = A 64 k) ∧ ∀ q, q ≠ 64 → q ≠ 68 → q ≠ 69 → q ≠ 258 → B q = A q
def frL (A B : Nat → Nat → Nat) : Prop := ∀ q, ¬ (64 ≤ q ∧ q ≤ 69) → q ≠ 258 → B q = A q
theorem exL_nil {A B : Nat → Nat → Nat} (h : lnI A) (f : ∀ q, q ≠ 258 → B q = A q) : exL A B [] := by
  have e4 := f 64 (by decide)
  have e8 := f 68 (by decide)
  have e9 := f 69 (by decide)
  refine ⟨by rw [e4]; rfl, fun k _ => by rw [e9], fun k hk => absurd hk (Nat.not_lt_zero _), by rw [e8, e4]; exact h.2.2, fun x _ => by rw [e8], fun k _ => by rw [e4], fun q _ _ _ d => f q d⟩
theorem exL_app {A B C : Nat → Nat → Nat} {cs ds : List (Nat × Nat)} (h : exL A B cs) (g : exL B C ds) : exL A C (cs ++ ds) := by
  obtain ⟨h1, h2, h3, h4, h5, h6, h7⟩ := h
  obtain ⟨g1, g2, g3, g4, g5, g6, g7⟩ := g
  have e1 : B 64 1 = A 64 1 := h6 1 (by decide)
  rw [e1] at g4 g5
  refine ⟨by rw [g1, h1, List.length_append, Nat.add_assoc], fun k hk => (g2 k (by omega)).trans (h2 k hk), fun k hk => ?_, g4, fun x hx => (g5 x hx).trans (h5 x hx), fun k hk => (g6 k hk).trans (h6 k hk), fun q a b c d => (g7 q a b c d).trans (h7 q a b c d)⟩
  rw [List.length_append] at hk
  by_cases z : k < cs.length
  · rw [gtC_l z, g2 _ (by omega)]; exact h3 k z
  · obtain ⟨m, rfl⟩ : ∃ m, k = cs.length + m := ⟨k - cs.length, by omega⟩
    rw [gtC_r, ← Nat.add_assoc, ← h1]
    exact g3 m (by omega)
theorem exL_fr {A B C : Nat → Nat → Nat} {cs : List (Nat × Nat)} (h : exL A B cs) (f : ∀ q, q ≠ 258 → C q = B q) : exL A C cs := by
  have g : exL B C [] := ⟨by rw [f 64 (by decide)]; rfl, fun k _ => by rw [f 69 (by decide)], fun k hk => absurd hk (Nat.not_lt_zero _), by rw [f 68 (by decide), f 64 (by decide), h.2.2.2.2.2.1 1 (by decide)]; exact h.2.2.2.1, fun x _ => by rw [f 68 (by decide)], fun k _ => by rw [f 64 (by decide)], fun q _ _ _ d => f q d⟩
  have := exL_app h g
  rw [List.append_nil] at this
  exact this
theorem exL_ad {A : Nat → Nat → Nat} {c v x : Nat} (hc : cdN c v = x) : exL A (adC A x) [(c, v)] := by
  unfold adC
  refine ⟨by rw [gu_row (by decide), gu_hit]; rfl, fun k hk => ?_, fun k hk => ?_, ?_, fun y hy => ?_, fun k hk => ?_, fun q a b c d => ?_⟩
  · rw [gu_row (by decide), gu_row (by decide), gu_k (by omega) rfl]
  · obtain rfl : k = 0 := Nat.lt_one_iff.mp hk
    rw [gu_row (by decide), gu_row (by decide), Nat.add_zero, gu_hit]
    exact hc.symm
  · rw [gu_hit, gu_row (by decide), gu_hit]
  · rw [gu_k hy rfl, gu_row (by decide), gu_row (by decide)]
  · rw [gu_row (by decide), gu_k hk rfl, gu_row (by decide)]
  · rw [gu_row b, gu_row a, gu_row c]
theorem lnI_ex {A B : Nat → Nat → Nat} {cs : List (Nat × Nat)} (l : lnI A) (h : exL A B cs) : lnI B := by
  have e := h.2.2.2.2.2.1 1 (by decide)
  unfold lnI
  rw [e]
  exact ⟨l.1, l.2.1, h.2.2.2.1⟩
theorem exL_V {A B : Nat → Nat → Nat} {cs : List (Nat × Nat)} (h : exL A B cs) : frL A B := fun q a b => h.2.2.2.2.2.2 q (by omega) (by omega) (by omega) b
theorem adC_q {A : Nat → Nat → Nat} {c q : Nat} (h : q ≠ 64) (h2 : q ≠ 68) (h3 : q ≠ 69) : adC A c q = A q := by
  unfold adC; rw [gu_row h2, gu_row h, gu_row h3]
theorem kI_ad {A : Nat → Nat → Nat} {t : Nat → Nat} {E i c : Nat} (h : kI A t E i) : kI (adC A c) t E i := kI_of h (fun k _ => by rw [adC_q (by decide) (by decide) (by decide)]) (adC_q (by decide) (by decide) (by decide))
/-- what a reading of the law comes to -/
def lwQ (A B : Nat → Nat → Nat) (t : Nat → Nat) (E : Nat) (r : LwS) : Prop := (r.1 = true → kI B t E r.2.2.1 ∧ B 258 3 = A 258 3 ∧ exL A B r.2.1) ∧ (r.1 = false → tI B t E ∧ B 258 3 = r.2.2.2) ∧ frL A B
theorem lwQ_t {A B : Nat → Nat → Nat} {t : Nat → Nat} {E : Nat} {r : LwS} (h : r.1 = true) (k : kI B t E r.2.2.1) (h3 : B 258 3 = A 258 3) (e : exL A B r.2.1) : lwQ A B t E r := ⟨fun _ => ⟨k, h3, e⟩, fun z => absurd z (by rw [h]; decide), exL_V e⟩
theorem lwQ_f {A B : Nat → Nat → Nat} {t : Nat → Nat} {E : Nat} {r : LwS} (h : r.1 = false) (k : tI B t E) (h3 : B 258 3 = r.2.2.2) (e : frL A B) : lwQ A B t E r := ⟨fun z => absurd z (by rw [h]; decide), fun _ => ⟨k, h3⟩, e⟩
theorem frL_tr {A B C : Nat → Nat → Nat} (h : frL A B) (h2 : frL B C) : frL A C := fun q a b => (h2 q a b).trans (h q a b)
def plL (b : Bool) : List (Nat × Nat) := if b = true then [(11, 0)] else []
/-- what is left of a sum, a part of it first; b: behind a plus -/
def suX (t : Nat → Nat) (E f : Nat) (b : Bool) (i : Nat) : LwS := if (ptS t E i).1 = true then ((smL t E f (ptS t E i).2.2.1).1, (ptS t E i).2.1 ++ (plL b ++ (smL t E f (ptS t E i).2.2.1).2.1), (smL t E f (ptS t E i).2.2.1).2.2) else (false, [], 0, (ptS t E i).2.2.2)
theorem suX_0 {t : Nat → Nat} {E i : Nat} : suS t E i = suX t E 401 false i := rfl
/-- a sum behind its sign -/
def csU (p : Nat) (s : LwS) : LwS := if s.1 = true then (true, s.2.1 ++ [(p, 0)], s.2.2) else (false, [], 0, s.2.2.2)
/-- a sum before its sign -/
def csV (t : Nat → Nat) (E : Nat) (s : LwS) : LwS := if s.1 = true then (if sgB t E s.2.2.1 60 = true then ((csU 12 (suS t E (sgE t E s.2.2.1 60))).1, s.2.1 ++ (csU 12 (suS t E (sgE t E s.2.2.1 60))).2.1, (csU 12 (suS t E (sgE t E s.2.2.1 60))).2.2) else if sgB t E s.2.2.1 62 = true then ((csU 13 (suS t E (sgE t E s.2.2.1 62))).1, s.2.1 ++ (csU 13 (suS t E (sgE t E s.2.2.1 62))).2.1, (csU 13 (suS t E (sgE t E s.2.2.1 62))).2.2) else (false, [], 0, skB t E s.2.2.1)) else (false, [], 0, s.2.2.2)
/-- what a comparison comes to, of what its sum comes to; p: 0 before the sign, its code behind it -/
def csT (t : Nat → Nat) (E p : Nat) (s : LwS) : LwS := if p = 0 then csV t E s else csU p s
def sgV (p : Nat) : Nat := if p = 0 then 4294967295 else p + 9
def sgK (t : Nat → Nat) (E i : Nat) : Nat := if sgB t E i 60 = true then 21 else if sgB t E i 62 = true then 22 else 4294967295
/-- the same but for codes that nobody looks at -/
def eqL (r s : LwS) : Prop := r.1 = s.1 ∧ r.2.2 = s.2.2 ∧ (s.1 = true → r.2.1 = s.2.1)
theorem csU_pre {p : Nat} {pre : List (Nat × Nat)} {s : LwS} : eqL (csU p (s.1, pre ++ s.2.1, s.2.2)) ((csU p s).1, pre ++ (csU p s).2.1, (csU p s).2.2) := by
  unfold csU
  by_cases h : s.1 = true
  · rw [if_pos h, if_pos h]
    exact ⟨rfl, rfl, fun _ => List.append_assoc _ _ _⟩
  · rw [if_neg h, if_neg h]
    exact ⟨rfl, rfl, fun z => by cases z⟩
theorem csV_pre {t : Nat → Nat} {E : Nat} {pre : List (Nat × Nat)} {s : LwS} : eqL (csV t E (s.1, pre ++ s.2.1, s.2.2)) ((csV t E s).1, pre ++ (csV t E s).2.1, (csV t E s).2.2) := by
  unfold csV
  by_cases h : s.1 = true
  · rw [if_pos h, if_pos h]
    by_cases h2 : sgB t E s.2.2.1 60 = true
    · rw [if_pos h2, if_pos h2]
      exact ⟨rfl, rfl, fun _ => List.append_assoc _ _ _⟩
    · rw [if_neg h2, if_neg h2]
      by_cases h3 : sgB t E s.2.2.1 62 = true
      · rw [if_pos h3, if_pos h3]
        exact ⟨rfl, rfl, fun _ => List.append_assoc _ _ _⟩
      · rw [if_neg h3, if_neg h3]
        exact ⟨rfl, rfl, fun z => by cases z⟩
  · rw [if_neg h, if_neg h]
    exact ⟨rfl, rfl, fun z => by cases z⟩
theorem csT_pre {t : Nat → Nat} {E p : Nat} {pre : List (Nat × Nat)} {s : LwS} : eqL (csT t E p (s.1, pre ++ s.2.1, s.2.2)) ((csT t E p s).1, pre ++ (csT t E p s).2.1, (csT t E p s).2.2) := by
  unfold csT
  by_cases h : p = 0
  · rw [if_pos h, if_pos h]; exact csV_pre
  · rw [if_neg h, if_neg h]; exact csU_pre
theorem eqL_tr {a b c : LwS} (h : eqL a b) (g : eqL b c) : eqL a c := ⟨h.1.trans g.1, h.2.1.trans g.2.1, fun z => (h.2.2 (g.1.trans z)).trans (g.2.2 z)⟩
theorem lwQ_eq {A B : Nat → Nat → Nat} {t : Nat → Nat} {E : Nat} {r s : LwS} (h : eqL r s) (q : lwQ A B t E s) : lwQ A B t E r := by
  obtain ⟨h1, h2, h3⟩ := h
  obtain ⟨q1, q2, q3⟩ := q
  refine ⟨fun z => ?_, fun z => ?_, q3⟩
  · rw [h1] at z
    rw [h2, h3 z]; exact q1 z
  · rw [h1] at z
    rw [h2]; exact q2 z
theorem ptS_w {t : Nat → Nat} {E i : Nat} (h : i ≤ E) (k : wpR t (skB t E i) (ltE t E (skB t E i)) ≠ 4294967295) : tkK t E i = 2 ∧ ptS t E i = (true, [(wpR t (skB t E i) (ltE t E (skB t E i)), 0)], tkE t E i, skB t E i) := by
  have k2 : tkK t E i = 2 := by
    rw [← wa_p h] at k
    unfold waN at k
    by_cases z : tkK t E i = 2
    · exact z
    · rw [if_neg z] at k; exact absurd rfl k
  refine ⟨k2, ?_⟩
  unfold ptS
  rw [if_neg ((tkK_2 h).mp k2), tkE_2 k2, decide_eq_false k]
  rfl
theorem ptS_n {A : Nat → Nat → Nat} {t : Nat → Nat} {E i : Nat} (k : kI A t E i) (h : nmV t E i 999 ≠ 4294967295) : A 258 6 = nmV t E i 999 ∧ ptS t E i = (true, [(10, nmV t E i 999)], tkE t E i, skB t E i) := by
  obtain ⟨k1, v6, ke⟩ := tkN_v k h
  refine ⟨v6, ?_⟩
  unfold ptS
  rw [if_pos (Decidable.not_not.mp (_root_.mt (tkK_2 k.2.1).mpr (by omega))), decide_eq_false h, ke]
  rfl
theorem ptS_f {t : Nat → Nat} {E i : Nat} (h : wpR t (skB t E i) (ltE t E (skB t E i)) = 4294967295) (h2 : nmV t E i 999 = 4294967295) : (ptS t E i).1 = false ∧ (ptS t E i).2.2.2 = skB t E i := by
  unfold ptS
  split
  · rw [decide_eq_true h2]; exact ⟨rfl, rfl⟩
  · rw [decide_eq_true h]; exact ⟨rfl, rfl⟩
theorem suS_sk {t : Nat → Nat} {E i : Nat} (h : i ≤ E) : suS t E (skB t E i) = suS t E i := by
  have e : ptS t E (skB t E i) = ptS t E i := by
    unfold ptS nmV nmE
    rw [skB_id h]
  unfold suS
  rw [e]
theorem cmS_T {t : Nat → Nat} {E i : Nat} (h : i ≤ E) : eqL (cmS t E i) (csT t E 0 (suX t E 401 false i)) := by
  unfold cmS csT csV csU
  rw [suS_sk h, if_pos rfl, ← suX_0]
  by_cases h : (suS t E i).1 = true
  · rw [if_pos h, if_pos h]
    by_cases h2 : sgB t E (suS t E i).2.2.1 60 = true
    · rw [if_pos h2, if_pos h2]
      by_cases h4 : (suS t E (sgE t E (suS t E i).2.2.1 60)).1 = true
      · rw [if_pos h4, if_pos h4]; exact ⟨rfl, rfl, fun _ => rfl⟩
      · rw [if_neg h4, if_neg h4]; exact ⟨rfl, rfl, fun z => by cases z⟩
    · rw [if_neg h2, if_neg h2]
      by_cases h3 : sgB t E (suS t E i).2.2.1 62 = true
      · rw [if_pos h3, if_pos h3]
        by_cases h4 : (suS t E (sgE t E (suS t E i).2.2.1 62)).1 = true
        · rw [if_pos h4, if_pos h4]; exact ⟨rfl, rfl, fun _ => rfl⟩
        · rw [if_neg h4, if_neg h4]; exact ⟨rfl, rfl, fun z => by cases z⟩
      · rw [if_neg h3, if_neg h3]; exact ⟨rfl, rfl, fun z => by cases z⟩
  · rw [if_neg h, if_neg h]; exact ⟨rfl, rfl, fun z => by cases z⟩
theorem w75 {X : gv_X} {d : Nat} {G : gv_Sh} {A : Nat → Nat → Nat} {j : Nat → Nat → Int64} {cc : gv_Rs} {P : gv_O × gv_S → Prop} {c : Nat} (hp64 : oX8 G 64) (H : (1 ≤ (A 64 1)) ∧ ((((A 64 1) - 1) < 4294967296) ∧ (((2147483648 ≤ ((A 64 1) - 1)) → P (.inl none, (G, (mI A, j), cc))) ∧ ((((A 64 1) - 1) < 2147483648) → (((A 64 1) - 1) < 2147483648) ∧ (((12 ≤ ((A 64 1) - 1)) → P (.inl none, (G, (mI A, j), cc))) ∧ ((((A 64 1) - 1) < 12) → ((A 64 2) < 4294967296) ∧ (((2147483648 ≤ (A 64 2)) → P (.inl none, (G, (mI A, j), cc))) ∧ (((A 64 2) < 2147483648) → ((A 64 2) < 2147483648) ∧ (((400 ≤ (A 64 2)) → P (.inl none, (G, (mI A, j), cc))) ∧ (((A 64 2) < 400) → ((A 64 2) < 400) ∧ ((((A 64 1) - 1) < 12) ∧ (P (.inl none, (G, (mI (gu (gu (gu A 69 (A 64 2) c) 64 2 ((A 64 2) + 1)) 68 ((A 64 1) - 1) ((A 64 2) + 1)), j), cc)))))))))))))) : EvP X (d + 0) gvm_75 0 (gv_enter [.ref 64, .int (nI c)] 3) [] (G, (mI A, j), cc) P :=
  (pv_aload_n rfl rfl   (pn_getI rfl rfl (oX8_k hp64) rfl   (pn_iconst rfl rfl   (pn_isub rfl H.1  (pv_istore_n rfl rfl   (pv_iload_n rfl rfl   (pn_if_lt rfl H.2.1 (fun c1 => (pv_vret rfl (H.2.2.1 c1))) (fun c1 => (pv_iload_n rfl rfl   (pn_bipush rfl rfl   (pn_ic_ge rfl (H.2.2.2 c1).1 (by decide) (fun c2 => (pv_vret rfl ((H.2.2.2 c1).2.1 c2))) (fun c2 => (pv_aload_n rfl rfl   (pn_getI rfl rfl (oX8_k hp64) rfl   (pn_if_lt rfl ((H.2.2.2 c1).2.2 c2).1 (fun c3 => (pv_vret rfl (((H.2.2.2 c1).2.2 c2).2.1 c3))) (fun c3 => (pv_aload_n rfl rfl   (pn_getI rfl rfl (oX8_k hp64) rfl   (pn_sipush rfl rfl   (pn_ic_ge rfl (((H.2.2.2 c1).2.2 c2).2.2 c3).1 (by decide) (fun c4 => (pv_vret rfl ((((H.2.2.2 c1).2.2 c2).2.2 c3).2.1 c4))) (fun c4 => (pv_aload_n rfl rfl   (pv_getP rfl rfl (oX8_k hp64) (oX8_7 hp64)   (pv_aload_n rfl rfl   (pn_getI rfl rfl (oX8_k hp64) rfl   (pv_iload_n rfl rfl   (pn_iast rfl (oX8_7c hp64) (by decide) ((((H.2.2.2 c1).2.2 c2).2.2 c3).2.2 c4).1  (pv_aload_n rfl rfl   (pv_dup rfl rfl   (pn_getI rfl rfl (oX8_k hp64) (gu_q (by omega) rfl)   (pn_iconst rfl rfl   (pn_iadd rfl   (pn_putI rfl rfl (oX8_k hp64)   (pv_aload_n rfl rfl   (pv_getP rfl rfl (oX8_k hp64) (oX8_6 hp64)   (pv_iload_n rfl rfl   (pv_aload_n rfl rfl   (pn_getI rfl rfl (oX8_k hp64) (gu_hit _ _ _ _)   (pn_iast rfl (oX8_6c hp64) (by decide) ((((H.2.2.2 c1).2.2 c2).2.2 c3).2.2 c4).2.1  (pv_vret rfl ((((H.2.2.2 c1).2.2 c2).2.2 c3).2.2 c4).2.2))))))))))))))))))))))))))))))))))))))))
theorem c_addCode_p {X : gv_X} {d : Nat} {G : gv_Sh} {A : Nat → Nat → Nat} {j : Nat → Nat → Int64} {cc : gv_Rs} {P : gv_O × gv_S → Prop} {c : Nat} (hp64 : oX8 G 64) (p0 : 1 ≤ A 64 1 ∧ A 64 1 ≤ 12) (p1 : A 64 2 < 400) (hP : P (.inl none, (G, (mI (adC A c), j), cc))) : EvP X (d + 0) gvm_75 0 (gv_enter [.ref 64, .int (nI c)] 3) [] (G, (mI A, j), cc) P := by
  exact w75 hp64 ⟨p0.1, by omega, fun c => absurd c (by omega), fun _ => ⟨by omega, fun c => absurd c (by omega), fun _ => ⟨by omega, fun c => absurd c (by omega), fun _ => ⟨by omega, fun c => absurd c (by omega), fun _ => ⟨by omega, by omega, hP⟩⟩⟩⟩⟩
theorem c_addCode {X : gv_X} {d : Nat} {G : gv_Sh} {A : Nat → Nat → Nat} {j : Nat → Nat → Int64} {cc : gv_Rs} {c : Nat} (hp64 : oX8 G 64) (p0 : 1 ≤ A 64 1 ∧ A 64 1 ≤ 12) (p1 : A 64 2 < 400) : Ev X (d + 0) gvm_75 0 (gv_enter [.ref 64, .int (nI c)] 3) [] (G, (mI A, j), cc) (.inl none, (G, (mI (adC A c), j), cc)) := evp_det (c_addCode_p hp64 p0 p1 rfl)
theorem w74 {X : gv_X} {d : Nat} {G : gv_Sh} {A : Nat → Nat → Nat} {j : Nat → Nat → Int64} {cc : gv_Rs} {P : gv_O × gv_S → Prop} {a : Nat} {b : Nat} (hp64 : oX8 G 64) (H : ((A 64 1) < 4294967296) ∧ (((2147483648 ≤ (A 64 1)) → P (.inl none, (G, (mI A, j), cc))) ∧ (((A 64 1) < 2147483648) → ((A 64 1) < 2147483648) ∧ (((12 ≤ (A 64 1)) → P (.inl none, (G, (mI A, j), cc))) ∧ (((A 64 1) < 12) → ((A 64 1) < 12) ∧ (((A 64 1) < 12) ∧ (((A 64 1) < 12) ∧ (((A 64 1) < 12) ∧ (P (.inl none, (G, (mI (gu (gu (gu (gu (gu A 65 (A 64 1) a) 66 (A 64 1) b) 67 (A 64 1) (A 64 2)) 68 (A 64 1) (A 64 2)) 64 1 ((A 64 1) + 1)), j), cc))))))))))) : EvP X (d + 0) gvm_74 0 (gv_enter [.ref 64, .int (nI a), .int (nI b)] 3) [] (G, (mI A, j), cc) P :=
  (pv_aload_n rfl rfl   (pn_getI rfl rfl (oX8_k hp64) rfl   (pn_if_lt rfl H.1 (fun c1 => (pv_vret rfl (H.2.1 c1))) (fun c1 => (pv_aload_n rfl rfl   (pn_getI rfl rfl (oX8_k hp64) rfl   (pn_bipush rfl rfl   (pn_ic_ge rfl (H.2.2 c1).1 (by decide) (fun c2 => (pv_vret rfl ((H.2.2 c1).2.1 c2))) (fun c2 => (pv_aload_n rfl rfl   (pv_getP rfl rfl (oX8_k hp64) (oX8_3 hp64)   (pv_aload_n rfl rfl   (pn_getI rfl rfl (oX8_k hp64) rfl   (pv_iload_n rfl rfl   (pn_iast rfl (oX8_3c hp64) (by decide) ((H.2.2 c1).2.2 c2).1  (pv_aload_n rfl rfl   (pv_getP rfl rfl (oX8_k hp64) (oX8_4 hp64)   (pv_aload_n rfl rfl   (pn_getI rfl rfl (oX8_k hp64) (gu_q (by omega) rfl)   (pv_iload_n rfl rfl   (pn_iast rfl (oX8_4c hp64) (by decide) ((H.2.2 c1).2.2 c2).2.1  (pv_aload_n rfl rfl   (pv_getP rfl rfl (oX8_k hp64) (oX8_5 hp64)   (pv_aload_n rfl rfl   (pn_getI rfl rfl (oX8_k hp64) (gu_q (by omega) (gu_q (by omega) rfl))   (pv_aload_n rfl rfl   (pn_getI rfl rfl (oX8_k hp64) (gu_q (by omega) (gu_q (by omega) rfl))   (pn_iast rfl (oX8_5c hp64) (by decide) ((H.2.2 c1).2.2 c2).2.2.1  (pv_aload_n rfl rfl   (pv_getP rfl rfl (oX8_k hp64) (oX8_6 hp64)   (pv_aload_n rfl rfl   (pn_getI rfl rfl (oX8_k hp64) (gu_q (by omega) (gu_q (by omega) (gu_q (by omega) rfl)))   (pv_aload_n rfl rfl   (pn_getI rfl rfl (oX8_k hp64) (gu_q (by omega) (gu_q (by omega) (gu_q (by omega) rfl)))   (pn_iast rfl (oX8_6c hp64) (by decide) ((H.2.2 c1).2.2 c2).2.2.2.1  (pv_aload_n rfl rfl   (pv_dup rfl rfl   (pn_getI rfl rfl (oX8_k hp64) (gu_q (by omega) (gu_q (by omega) (gu_q (by omega) (gu_q (by omega) rfl))))   (pn_iconst rfl rfl   (pn_iadd rfl   (pn_putI rfl rfl (oX8_k hp64)   (pv_vret rfl ((H.2.2 c1).2.2 c2).2.2.2.2))))))))))))))))))))))))))))))))))))))))))
theorem c_addLine_p {X : gv_X} {d : Nat} {G : gv_Sh} {A : Nat → Nat → Nat} {j : Nat → Nat → Int64} {cc : gv_Rs} {P : gv_O × gv_S → Prop} {a : Nat} {b : Nat} (hp64 : oX8 G 64) (p0 : A 64 1 < 12) (hP : P (.inl none, (G, (mI (adL A a b), j), cc))) : EvP X (d + 0) gvm_74 0 (gv_enter [.ref 64, .int (nI a), .int (nI b)] 3) [] (G, (mI A, j), cc) P := by
  exact w74 hp64 ⟨by omega, fun c => absurd c (by omega), fun _ => ⟨by omega, fun c => absurd c (by omega), fun _ => ⟨by omega, by omega, by omega, by omega, hP⟩⟩⟩
theorem c_addLine {X : gv_X} {d : Nat} {G : gv_Sh} {A : Nat → Nat → Nat} {j : Nat → Nat → Int64} {cc : gv_Rs} {a : Nat} {b : Nat} (hp64 : oX8 G 64) (p0 : A 64 1 < 12) : Ev X (d + 0) gvm_74 0 (gv_enter [.ref 64, .int (nI a), .int (nI b)] 3) [] (G, (mI A, j), cc) (.inl none, (G, (mI (adL A a b), j), cc)) := evp_det (c_addLine_p hp64 p0 rfl)
theorem w33 {X : gv_X} {d : Nat} {G : gv_Sh} {A : Nat → Nat → Nat} {j : Nat → Nat → Int64} {cc : gv_Rs} {P : gv_O × gv_S → Prop} {t : Nat → Nat} {E : Nat} {i : Nat} (hp261 : oX3 G 261) (H : (kI A t E i) ∧ (((33 ≤ 60 ∧ 60 < 48) ∨ (58 ≤ 60 ∧ 60 < 97)) ∧ ((((sgB t E i 60) = false) → (kI A t E i) ∧ (((33 ≤ 62 ∧ 62 < 48) ∨ (58 ≤ 62 ∧ 62 < 97)) ∧ ((((sgB t E i 62) = false) → P (.inl (some (.int (nI 4294967295))), (G, (mI A, j), cc))) ∧ (((sgB t E i 62) = true) → P (.inl (some (.int (nI 22))), (G, (mI A, j), cc)))))) ∧ (((sgB t E i 60) = true) → P (.inl (some (.int (nI 21))), (G, (mI A, j), cc)))))) : EvP X (d + 1) gvm_33 0 (gv_enter [.ref 261] 1) [] (G, (mI A, j), cc) P :=
  (pv_aload_n rfl rfl   (pv_getP rfl rfl (oX3_k hp261) (oX3_0 hp261)   (pn_bipush rfl rfl   (pv_virt rfl rfl rfl rfl rfl (oX7_k (oX3_0c hp261)) rfl rfl rfl (c_isSign (c := 60) (t := t) (E := E) (i := i) (A := A) (oX3_0c hp261) H.1 H.2.1 ) (pv_if_eq_zo rfl  (fun c1 => (pv_aload_n rfl rfl   (pv_getP rfl rfl (oX3_k hp261) (oX3_0 hp261)   (pn_bipush rfl rfl   (pv_virt rfl rfl rfl rfl rfl (oX7_k (oX3_0c hp261)) rfl rfl rfl (c_isSign (c := 62) (t := t) (E := E) (i := i) (A := A) (oX3_0c hp261) (H.2.2.1 c1).1 (H.2.2.1 c1).2.1 ) (pv_if_eq_zo rfl  (fun c2 => (pn_iconst (u := 4294967295) rfl (by decide)   (pv_ireti rfl rfl ((H.2.2.1 c1).2.2.1 c2)))) (fun c2 => (pn_bipush rfl rfl   (pv_goto rfl (pv_ireti rfl rfl ((H.2.2.1 c1).2.2.2 c2))))))))))) (fun c1 => (pn_bipush rfl rfl   (pv_ireti rfl rfl (H.2.2.2 c1)))))))))
theorem c_comparingSign_p {X : gv_X} {d : Nat} {G : gv_Sh} {A : Nat → Nat → Nat} {j : Nat → Nat → Int64} {cc : gv_Rs} {P : gv_O × gv_S → Prop} {t : Nat → Nat} {E : Nat} {i : Nat} (hp261 : oX3 G 261) (p0 : kI A t E i) (hP : P (.inl (some (.int (nI (sgK t E i)))), (G, (mI A, j), cc))) : EvP X (d + 1) gvm_33 0 (gv_enter [.ref 261] 1) [] (G, (mI A, j), cc) P := by
  refine w33 (i := i) hp261 ⟨p0, by decide, fun c1 => ⟨p0, by decide, fun c2 => ?_, fun c2 => ?_⟩, fun c1 => ?_⟩
  · exact qn hP (by unfold sgK; rw [if_neg (by rw [c1]; decide), if_neg (by rw [c2]; decide)])
  · exact qn hP (by unfold sgK; rw [if_neg (by rw [c1]; decide), if_pos c2])
  · exact qn hP (by unfold sgK; rw [if_pos c1])
theorem c_comparingSign {X : gv_X} {d : Nat} {G : gv_Sh} {A : Nat → Nat → Nat} {j : Nat → Nat → Int64} {cc : gv_Rs} {t : Nat → Nat} {E : Nat} {i : Nat} (hp261 : oX3 G 261) (p0 : kI A t E i) : Ev X (d + 1) gvm_33 0 (gv_enter [.ref 261] 1) [] (G, (mI A, j), cc) (.inl (some (.int (nI (sgK t E i)))), (G, (mI A, j), cc)) := evp_det (c_comparingSign_p hp261 p0 rfl)
theorem w32 {X : gv_X} {d : Nat} {G : gv_Sh} {A : Nat → Nat → Nat} {j : Nat → Nat → Int64} {cc : gv_Rs} {P : gv_O × gv_S → Prop}  (hp261 : oX3 G 261) (H : EvP X (d + 3) gvm_32 6 [some (.ref 261), some (.int (nI 4294967295)), some (.int (nI 0)), some (.int (nI 0)), none] [] (G, (mI A, j), cc) P) : EvP X (d + 3) gvm_32 0 (gv_enter [.ref 261] 5) [] (G, (mI A, j), cc) P :=
  (pn_iconst (u := 4294967295) rfl (by decide)   (pv_istore_n rfl rfl   (pn_iconst rfl rfl   (pv_istore_n rfl rfl   (pn_iconst rfl rfl   (pv_istore_n rfl rfl   H))))))
theorem w32_6 {X : gv_X} {d : Nat} {G : gv_Sh} {A : Nat → Nat → Nat} {j : Nat → Nat → Int64} {cc : gv_Rs} {P : gv_O × gv_S → Prop} {l1 : Nat} {l2 : Bool} {l3 : Nat} {l4 : Option Value} {t : Nat → Nat} {E : Nat} {i : Nat} (hp261 : oX3 G 261) (H : (l3 < 2147483648) ∧ (((400 ≤ l3) → (∀ A2 : Nat → Nat → Nat, A2 = (gu A 258 3 (A 258 4)) → P (.inl (some (.int (zo false))), (G, (mI A2, j), cc)))) ∧ ((l3 < 400) → (kI A t E i) ∧ ((1 ≤ 10 ∧ 10 < 11) ∧ (((waN t E i 10) < 4294967296) ∧ (((¬ (waN t E i 10) = 4294967295) → EvP X (d + 3) gvm_32 51 [some (.ref 261), some (.int (nI l1)), some (.int (zo l2)), some (.int (nI l3)), some (.int (nI (waN t E i 10)))] [] (G, (mI A, j), cc) P) ∧ (((waN t E i 10) = 4294967295) → (kI A t E i) ∧ ((((!decide (nmV t E i 999 = 4294967295)) = true) → EvP X (d + 3) gvm_32 51 [some (.ref 261), some (.int (nI l1)), some (.int (zo l2)), some (.int (nI l3)), some (.int (nI (waN t E i 10)))] [] (G, (mI A, j), cc) P) ∧ (((!decide (nmV t E i 999 = 4294967295)) = false) → (∀ A5 : Nat → Nat → Nat, A5 = (gu A 258 3 (A 258 4)) → P (.inl (some (.int (zo false))), (G, (mI A5, j), cc)))))))))))) : EvP X (d + 3) gvm_32 6 [some (.ref 261), some (.int (nI l1)), some (.int (zo l2)), some (.int (nI l3)), l4] [] (G, (mI A, j), cc) P :=
  (pv_iload_n rfl rfl   (pn_sipush rfl rfl   (pn_ic_ge rfl H.1 (by decide) (fun c1 => (pv_aload_n rfl rfl   (pv_getP rfl rfl (oX3_k hp261) (oX3_0 hp261)   (match (⟨(gu A 258 3 (A 258 4)), rfl⟩ : ∃ Z : Nat → Nat → Nat, Z = (gu A 258 3 (A 258 4))) with | ⟨A2, q2⟩ => pv_virt rfl rfl rfl rfl rfl (oX7_k (oX3_0c hp261)) rfl rfl rfl (ev_eqM q2 (c_refuse (A := A) (oX3_0c hp261) )) (pv_iretz rfl rfl (zo_b _) ((H.2.1 c1) A2 q2)))))) (fun c1 => (pv_aload_n rfl rfl   (pv_getP rfl rfl (oX3_k hp261) (oX3_0 hp261)   (pv_ldcS rfl   (pv_virt rfl rfl rfl rfl rfl (oX7_k (oX3_0c hp261)) rfl rfl rfl (c_wordAmong (q := 10) (t := t) (E := E) (i := i) (A := A) (oX3_0c hp261) (H.2.2 c1).1 (H.2.2 c1).2.1 ) (pv_istore rfl rfl   (pv_iload rfl rfl   (pn_iconst (u := 4294967295) rfl (by decide)   (pn_ic_ne rfl (H.2.2 c1).2.2.1 (by decide) (fun c3 => ((H.2.2 c1).2.2.2.1 c3)) (fun c3 => (pv_aload_n rfl rfl   (pv_getP rfl rfl (oX3_k hp261) (oX3_0 hp261)   (pn_sipush rfl rfl   (pv_virt rfl rfl rfl rfl rfl (oX7_k (oX3_0c hp261)) rfl rfl rfl (c_isNumberTo (m := 999) (t := t) (E := E) (i := i) (A := A) (oX3_0c hp261) ((H.2.2 c1).2.2.2.2 c3).1 (by decide) ) (pv_if_ne_zo rfl  (fun c4 => (((H.2.2 c1).2.2.2.2 c3).2.1 c4)) (fun c4 => (pv_aload_n rfl rfl   (pv_getP rfl rfl (oX3_k hp261) (oX3_0 hp261)   (match (⟨(gu A 258 3 (A 258 4)), rfl⟩ : ∃ Z : Nat → Nat → Nat, Z = (gu A 258 3 (A 258 4))) with | ⟨A5, q5⟩ => pv_virt rfl rfl rfl rfl rfl (oX7_k (oX3_0c hp261)) rfl rfl rfl (ev_eqM q5 (c_refuse (A := A) (oX3_0c hp261) )) (pv_iretz rfl rfl (zo_b _) ((((H.2.2 c1).2.2.2.2 c3).2.2 c4) A5 q5))))))))))))))))))))))))
theorem w32_51 {X : gv_X} {d : Nat} {G : gv_Sh} {A : Nat → Nat → Nat} {j : Nat → Nat → Int64} {cc : gv_Rs} {P : gv_O × gv_S → Prop} {l1 : Nat} {l2 : Bool} {l3 : Nat} {l4 : Nat} (hp261 : oX3 G 261) (H : (l4 < 4294967296) ∧ (((¬ l4 = 4294967295) → EvP X (d + 3) gvm_32 77 [some (.ref 261), some (.int (nI l1)), some (.int (zo l2)), some (.int (nI l3)), some (.int (nI l4))] [.int (nI l4), .ref 64] (G, (mI A, j), cc) P) ∧ ((l4 = 4294967295) → EvP X (d + 3) gvm_32 77 [some (.ref 261), some (.int (nI l1)), some (.int (zo l2)), some (.int (nI l3)), some (.int (nI l4))] [.int (nI (1000 + (A 258 6))), .ref 64] (G, (mI A, j), cc) P))) : EvP X (d + 3) gvm_32 51 [some (.ref 261), some (.int (nI l1)), some (.int (zo l2)), some (.int (nI l3)), some (.int (nI l4))] [] (G, (mI A, j), cc) P :=
  (pv_aload_n rfl rfl   (pv_getP rfl rfl (oX3_k hp261) (oX3_1 hp261)   (pv_iload rfl rfl   (pn_iconst (u := 4294967295) rfl (by decide)   (pn_ic_ne rfl H.1 (by decide) (fun c1 => (pv_iload rfl rfl   (H.2.1 c1))) (fun c1 => (pn_sipush rfl rfl   (pv_aload_n rfl rfl   (pv_getP rfl rfl (oX3_k hp261) (oX3_0 hp261)   (pn_getI rfl rfl (oX7_k (oX3_0c hp261)) rfl   (pn_iadd rfl   (pv_goto rfl (H.2.2 c1)))))))))))))
theorem w32_77 {X : gv_X} {d : Nat} {G : gv_Sh} {A : Nat → Nat → Nat} {j : Nat → Nat → Int64} {cc : gv_Rs} {P : gv_O × gv_S → Prop} {l1 : Nat} {l2 : Bool} {l3 : Nat} {l4 : Nat} {s1 : Nat} (hp261 : oX3 G 261) (H : (1 ≤ A 64 1 ∧ A 64 1 ≤ 12) ∧ ((A 64 2 < 400) ∧ ((∀ A1 : Nat → Nat → Nat, A1 = (adC A s1) → ((l2 = false) → EvP X (d + 3) gvm_32 93 [some (.ref 261), some (.int (nI l1)), some (.int (zo l2)), some (.int (nI l3)), some (.int (nI l4))] [] (G, (mI A1, j), cc) P) ∧ ((l2 = true) → (1 ≤ A1 64 1 ∧ A1 64 1 ≤ 12) ∧ ((A1 64 2 < 400) ∧ ((∀ A3 : Nat → Nat → Nat, A3 = (adC A1 20) → EvP X (d + 3) gvm_32 93 [some (.ref 261), some (.int (nI l1)), some (.int (zo l2)), some (.int (nI l3)), some (.int (nI l4))] [] (G, (mI A3, j), cc) P)))))))) : EvP X (d + 3) gvm_32 77 [some (.ref 261), some (.int (nI l1)), some (.int (zo l2)), some (.int (nI l3)), some (.int (nI l4))] [.int (nI s1), .ref 64] (G, (mI A, j), cc) P :=
  (match (⟨(adC A s1), rfl⟩ : ∃ Z : Nat → Nat → Nat, Z = (adC A s1)) with | ⟨A1, q1⟩ => pv_virt rfl rfl rfl rfl rfl (oX8_k (oX3_1c hp261)) rfl rfl rfl (ev_eqM q1 (c_addCode (c := s1) (A := A) (oX3_1c hp261) H.1 H.2.1 )) (pv_iload_n rfl rfl   (pv_if_eq_zo rfl  (fun c2 => ((H.2.2 A1 q1).1 c2)) (fun c2 => (pv_aload_n rfl rfl   (pv_getP rfl rfl (oX3_k hp261) (oX3_1 hp261)   (pn_bipush rfl rfl   (match (⟨(adC A1 20), rfl⟩ : ∃ Z : Nat → Nat → Nat, Z = (adC A1 20)) with | ⟨A3, q3⟩ => pv_virt rfl rfl rfl rfl rfl (oX8_k (oX3_1c hp261)) rfl rfl rfl (ev_eqM q3 (c_addCode (c := 20) (A := A1) (oX3_1c hp261) ((H.2.2 A1 q1).2 c2).1 ((H.2.2 A1 q1).2 c2).2.1 )) (((H.2.2 A1 q1).2 c2).2.2 A3 q3)))))))))
theorem w32_93 {X : gv_X} {d : Nat} {G : gv_Sh} {A : Nat → Nat → Nat} {j : Nat → Nat → Int64} {cc : gv_Rs} {P : gv_O × gv_S → Prop} {l1 : Nat} {l2 : Bool} {l3 : Nat} {l4 : Nat} {t : Nat → Nat} {E : Nat} {i : Nat} (hp261 : oX3 G 261) (H : (tI A t E) ∧ ((A 258 2 = (tkE t E i)) ∧ (((tkE t E i) ≤ E) ∧ ((∀ A1v1 : Nat → Nat → Nat, ((kI A1v1 t E (tkE t E i)) ∧ (frR A A1v1)) → (kI A1v1 t E (tkE t E i)) ∧ (((33 ≤ 43 ∧ 43 < 48) ∨ (58 ≤ 43 ∧ 43 < 97)) ∧ (EvP X (d + 3) gvm_32 110 [some (.ref 261), some (.int (nI l1)), some (.int (zo (sgB t E (tkE t E i) 43))), some (.int (nI l3)), some (.int (nI l4))] [] (G, (mI A1v1, j), cc) P))))))) : EvP X (d + 3) gvm_32 93 [some (.ref 261), some (.int (nI l1)), some (.int (zo l2)), some (.int (nI l3)), some (.int (nI l4))] [] (G, (mI A, j), cc) P :=
  (pv_aload_n rfl rfl   (pv_getP rfl rfl (oX3_k hp261) (oX3_0 hp261)   (match (c_step (t := t) (E := E) (i := (tkE t E i)) (A := A) (X := X) (d := d + 0) (G := G) (j := j) (cc := cc) (oX3_0c hp261) H.1 H.2.1 H.2.2.1 ) with | ⟨A1v1, e2x97, h1⟩ => pv_virt rfl rfl rfl rfl rfl (oX7_k (oX3_0c hp261)) rfl rfl rfl e2x97 (pv_aload_n rfl rfl   (pv_getP rfl rfl (oX3_k hp261) (oX3_0 hp261)   (pn_bipush rfl rfl   (pv_virt rfl rfl rfl rfl rfl (oX7_k (oX3_0c hp261)) rfl rfl rfl (c_isSign (c := 43) (t := t) (E := E) (i := (tkE t E i)) (A := A1v1) (oX3_0c hp261) (H.2.2.2 A1v1 h1).1 (H.2.2.2 A1v1 h1).2.1 ) (pv_istore_n rfl rfl   (H.2.2.2 A1v1 h1).2.2))))))))
theorem w32_110 {X : gv_X} {d : Nat} {G : gv_Sh} {A : Nat → Nat → Nat} {j : Nat → Nat → Int64} {cc : gv_Rs} {P : gv_O × gv_S → Prop} {l1 : Nat} {l2 : Bool} {l3 : Nat} {l4 : Nat} (hp261 : oX3 G 261) (H : ((l2 = true) → EvP X (d + 3) gvm_32 129 [some (.ref 261), some (.int (nI l1)), some (.int (zo l2)), some (.int (nI l3)), some (.int (nI l4))] [] (G, (mI A, j), cc) P) ∧ ((l2 = false) → (l1 < 4294967296) ∧ (((l1 = 4294967295) → EvP X (d + 3) gvm_32 129 [some (.ref 261), some (.int (nI l1)), some (.int (zo l2)), some (.int (nI l3)), some (.int (nI l4))] [] (G, (mI A, j), cc) P) ∧ ((¬ l1 = 4294967295) → (1 ≤ A 64 1 ∧ A 64 1 ≤ 12) ∧ ((A 64 2 < 400) ∧ ((∀ A3 : Nat → Nat → Nat, A3 = (adC A l1) → P (.inl (some (.int (nI 1))), (G, (mI A3, j), cc))))))))) : EvP X (d + 3) gvm_32 110 [some (.ref 261), some (.int (nI l1)), some (.int (zo l2)), some (.int (nI l3)), some (.int (nI l4))] [] (G, (mI A, j), cc) P :=
  (pv_iload_n rfl rfl   (pv_if_ne_zo rfl  (fun c1 => (H.1 c1)) (fun c1 => (pv_iload_n rfl rfl   (pn_iconst (u := 4294967295) rfl (by decide)   (pn_ic_eq rfl (H.2 c1).1 (by decide) (fun c2 => ((H.2 c1).2.1 c2)) (fun c2 => (pv_aload_n rfl rfl   (pv_getP rfl rfl (oX3_k hp261) (oX3_1 hp261)   (pv_iload_n rfl rfl   (match (⟨(adC A l1), rfl⟩ : ∃ Z : Nat → Nat → Nat, Z = (adC A l1)) with | ⟨A3, q3⟩ => pv_virt rfl rfl rfl rfl rfl (oX8_k (oX3_1c hp261)) rfl rfl rfl (ev_eqM q3 (c_addCode (c := l1) (A := A) (oX3_1c hp261) ((H.2 c1).2.2 c2).1 ((H.2 c1).2.2 c2).2.1 )) (pn_iconst rfl rfl   (pv_iretz rfl rfl (Or.inr rfl) (((H.2 c1).2.2 c2).2.2 A3 q3))))))))))))))
theorem w32_129 {X : gv_X} {d : Nat} {G : gv_Sh} {A : Nat → Nat → Nat} {j : Nat → Nat → Int64} {cc : gv_Rs} {P : gv_O × gv_S → Prop} {l1 : Nat} {l2 : Bool} {l3 : Nat} {l4 : Nat} {t : Nat → Nat} {E : Nat} {i : Nat} (hp261 : oX3 G 261) (H : ((l2 = true) → EvP X (d + 3) gvm_32 151 [some (.ref 261), some (.int (nI l1)), some (.int (zo l2)), some (.int (nI l3)), some (.int (nI l4))] [] (G, (mI A, j), cc) P) ∧ ((l2 = false) → (kI A t E i) ∧ (((sgK t E i) < 4294967296) ∧ (((¬ (sgK t E i) = 4294967295) → EvP X (d + 3) gvm_32 151 [some (.ref 261), some (.int (nI (sgK t E i))), some (.int (zo l2)), some (.int (nI l3)), some (.int (nI l4))] [] (G, (mI A, j), cc) P) ∧ (((sgK t E i) = 4294967295) → (∀ A3 : Nat → Nat → Nat, A3 = (gu A 258 3 (A 258 4)) → P (.inl (some (.int (zo false))), (G, (mI A3, j), cc)))))))) : EvP X (d + 3) gvm_32 129 [some (.ref 261), some (.int (nI l1)), some (.int (zo l2)), some (.int (nI l3)), some (.int (nI l4))] [] (G, (mI A, j), cc) P :=
  (pv_iload_n rfl rfl   (pv_if_ne_zo rfl  (fun c1 => (H.1 c1)) (fun c1 => (pv_aload_n rfl rfl   (pv_virt rfl rfl rfl rfl rfl (oX3_k hp261) rfl rfl rfl (c_comparingSign (t := t) (E := E) (i := i) (A := A) hp261 (H.2 c1).1 ) (pv_istore_n rfl rfl   (pv_iload_n rfl rfl   (pn_iconst (u := 4294967295) rfl (by decide)   (pn_ic_ne rfl (H.2 c1).2.1 (by decide) (fun c2 => ((H.2 c1).2.2.1 c2)) (fun c2 => (pv_aload_n rfl rfl   (pv_getP rfl rfl (oX3_k hp261) (oX3_0 hp261)   (match (⟨(gu A 258 3 (A 258 4)), rfl⟩ : ∃ Z : Nat → Nat → Nat, Z = (gu A 258 3 (A 258 4))) with | ⟨A3, q3⟩ => pv_virt rfl rfl rfl rfl rfl (oX7_k (oX3_0c hp261)) rfl rfl rfl (ev_eqM q3 (c_refuse (A := A) (oX3_0c hp261) )) (pv_iretz rfl rfl (zo_b _) (((H.2 c1).2.2.2 c2) A3 q3)))))))))))))))
theorem w32_151 {X : gv_X} {d : Nat} {G : gv_Sh} {A : Nat → Nat → Nat} {j : Nat → Nat → Int64} {cc : gv_Rs} {P : gv_O × gv_S → Prop} {l1 : Nat} {l2 : Bool} {l3 : Nat} {l4 : Nat} {t : Nat → Nat} {E : Nat} {i : Nat} (hp261 : oX3 G 261) (H : (tI A t E) ∧ ((A 258 2 = (tkE t E i)) ∧ (((tkE t E i) ≤ E) ∧ ((∀ A1v1 : Nat → Nat → Nat, ((kI A1v1 t E (tkE t E i)) ∧ (frR A A1v1)) → EvP X (d + 3) gvm_32 6 [some (.ref 261), some (.int (nI l1)), some (.int (zo l2)), some (.int (nI (l3 + 1))), some (.int (nI l4))] [] (G, (mI A1v1, j), cc) P))))) : EvP X (d + 3) gvm_32 151 [some (.ref 261), some (.int (nI l1)), some (.int (zo l2)), some (.int (nI l3)), some (.int (nI l4))] [] (G, (mI A, j), cc) P :=
  (pv_aload_n rfl rfl   (pv_getP rfl rfl (oX3_k hp261) (oX3_0 hp261)   (match (c_step (t := t) (E := E) (i := (tkE t E i)) (A := A) (X := X) (d := d + 0) (G := G) (j := j) (cc := cc) (oX3_0c hp261) H.1 H.2.1 H.2.2.1 ) with | ⟨A1v1, e1x155, h1⟩ => pv_virt rfl rfl rfl rfl rfl (oX7_k (oX3_0c hp261)) rfl rfl rfl e1x155 (pn_iinc rfl rfl rfl rfl   (pv_goto rfl (H.2.2.2 A1v1 h1))))))
theorem c_readComparison_p {X : gv_X} {d : Nat} {G : gv_Sh} {A : Nat → Nat → Nat} {j : Nat → Nat → Int64} {cc : gv_Rs} {P : gv_O × gv_S → Prop} {t : Nat → Nat} {E : Nat} {i : Nat} (hp261 : oX3 G 261) (p0 : kI A t E i) (p1 : lnI A) (p2 : A 64 2 + 1 ≤ i) (hP : ∀ A1 : Nat → Nat → Nat, (lwQ A A1 t E (cmS t E i)) → P (.inl (some (.int (zo ((cmS t E i).1)))), (G, (mI A1, j), cc))) : EvP X (d + 3) gvm_32 0 (gv_enter [.ref 261] 5) [] (G, (mI A, j), cc) P := by
  obtain ⟨r, hr⟩ : ∃ r, r = cmS t E i := ⟨_, rfl⟩
  rw [← hr] at hP
  have hE := p0.1.2.1
  have L : ∀ g m f i p b B cs l4, m + g = 401 → 2 * m ≤ i → E < i + f → kI B t E i → exL A B cs → A 64 2 + cs.length + 1 + (plL b).length ≤ i → B 258 3 = A 258 3 → p = 0 ∨ p = 12 ∨ p = 13 → eqL r ((csT t E p (suX t E f b i)).1, cs ++ (csT t E p (suX t E f b i)).2.1, (csT t E p (suX t E f b i)).2.2) → EvP X (d + 3) gvm_32 6 [some (.ref 261), some (.int (nI (sgV p))), some (.int (zo b)), some (.int (nI m)), l4] [] (G, (mI B, j), cc) P := by
    intro g
    induction g with
    | zero => intro m f i p b B cs l4 e1 e2 e3 k; have := k.2.1; omega
    | succ g ih =>
      intro m f i p b B cs l4 e1 e2 e3 k ex hb h3 hp he
      have iE := k.2.1
      obtain ⟨f, rfl⟩ : ∃ f0, f = f0 + 1 := ⟨f - 1, by omega⟩
      have ln := lnI_ex p1 ex
      have b2 : B 64 2 = A 64 2 + cs.length := ex.1
      have be := tkE_b (t := t) iE
      have sv : sgV p < 4294967296 := by unfold sgV; split <;> omega
      -- a part is read: its code is (c, v), a plus stands behind it
      have K93 : ∀ c v D l4, l4 < 4294967296 → ptS t E i = (true, [(c, v)], tkE t E i, skB t E i) → kI D t E i → D 258 3 = A 258 3 → exL A D (cs ++ ([(c, v)] ++ plL b)) → EvP X (d + 3) gvm_32 93 [some (.ref 261), some (.int (nI (sgV p))), some (.int (zo b)), some (.int (nI m)), some (.int (nI l4))] [] (G, (mI D, j), cc) P := fun c v D l4 hl hq kD d3 eD => by
        have pb := ptS_b (t := t) iE (by rw [hq])
        rw [hq] at pb
        have pb1 : i + 1 ≤ tkE t E i := pb.1
        obtain ⟨e, hee⟩ : ∃ e, e = tkE t E i := ⟨_, rfl⟩
        have sx : suX t E (f + 1) b i = ((smL t E (f + 1) e).1, ([(c, v)] ++ plL b) ++ (smL t E (f + 1) e).2.1, (smL t E (f + 1) e).2.2) := by
          unfold suX; rw [hq, if_pos rfl, ← hee, List.append_assoc]
        have st : smL t E (f + 1) e = if sgB t E e 43 = true then (if (ptS t E (sgE t E e 43)).1 = true then ((smL t E f (ptS t E (sgE t E e 43)).2.2.1).1, (ptS t E (sgE t E e 43)).2.1 ++ ([(11, 0)] ++ (smL t E f (ptS t E (sgE t E e 43)).2.2.1).2.1), (smL t E f (ptS t E (sgE t E e 43)).2.2.1).2.2) else (false, [], 0, (ptS t E (sgE t E e 43)).2.2.2)) else (true, [], skB t E e, skB t E e) := rfl
        rw [sx] at he
        have he := eqL_tr he (show eqL ((csT t E p ((smL t E (f + 1) e).1, ([(c, v)] ++ plL b) ++ (smL t E (f + 1) e).2.1, (smL t E (f + 1) e).2.2)).1, cs ++ (csT t E p ((smL t E (f + 1) e).1, ([(c, v)] ++ plL b) ++ (smL t E (f + 1) e).2.1, (smL t E (f + 1) e).2.2)).2.1, (csT t E p ((smL t E (f + 1) e).1, ([(c, v)] ++ plL b) ++ (smL t E (f + 1) e).2.1, (smL t E (f + 1) e).2.2)).2.2) ((csT t E p (smL t E (f + 1) e)).1, (cs ++ ([(c, v)] ++ plL b)) ++ (csT t E p (smL t E (f + 1) e)).2.1, (csT t E p (smL t E (f + 1) e)).2.2) from by
          have q := csT_pre (t := t) (E := E) (p := p) (pre := [(c, v)] ++ plL b) (s := smL t E (f + 1) e)
          exact ⟨q.1, q.2.1, fun z => (congrArg (fun l => cs ++ l) (q.2.2 z)).trans (List.append_assoc _ _ _).symm⟩)
        have ib : tkE t E i ≤ E := pb.2
        rw [← hee] at pb1 ib be
        have sb := skB_b (t := t) ib
        have b3 := tkE_b (t := t) ib
        have kl : (cs ++ ([(c, v)] ++ plL b)).length = cs.length + (1 + (plL b).length) := by rw [List.length_append, List.length_append]; rfl
        have exF0 := fun (F : Nat → Nat → Nat) (h : ∀ q, q ≠ 258 → F q = D q) => exL_fr eD h
        refine w32_93 (t := t) (E := E) (i := i) hp261 ?_
        rw [← hee]
        refine ⟨kD.1, by rw [kD.2.2.2.1, hee], ib, fun F hF => ⟨hF.1, by decide, ?_⟩⟩
        have exF := exF0 F hF.2.1
        have f3 : F 258 3 = A 258 3 := (frR_3 hF.2).trans d3
        have f2 : F 64 2 = A 64 2 + (cs ++ ([(c, v)] ++ plL b)).length := exF.1
        rw [kl] at f2
        by_cases c1 : sgB t E e 43 = true
        · have e2 := (tkK_s ib (by omega) c1).2
          have e3 : sgE t E e 43 = tkE t E e := by unfold sgE; rw [if_pos c1, e2]
          have sm : smL t E (f + 1) e = suX t E f true (tkE t E e) := by
            rw [st, if_pos c1, e3]; rfl
          refine w32_110 hp261 ⟨fun _ => w32_129 (t := t) (E := E) (i := e) hp261 ⟨fun _ => w32_151 (t := t) (E := E) (i := e) hp261 ⟨hF.1.1, hF.1.2.2.2.1, b3.2, fun K hK => ?_⟩, fun z => absurd c1 (by rw [z]; decide)⟩, fun z => absurd c1 (by rw [z]; decide)⟩
          rw [c1]
          refine ih (m + 1) f (tkE t E e) p true K (cs ++ ([(c, v)] ++ plL b)) _ (by omega) (by omega) (by omega) hK.1 (exL_fr exF hK.2.1) ?_ ((frR_3 hK.2).trans f3) hp ?_
          · rw [kl]
            show A 64 2 + (cs.length + (1 + (plL b).length)) + 1 + 1 ≤ _
            omega
          · rw [← sm]; exact he
        · have c1' : sgB t E e 43 = false := by
            cases h : sgB t E e 43 with
            | false => rfl
            | true => exact absurd h c1
          obtain ⟨x, hx⟩ : ∃ x, x = skB t E e := ⟨_, rfl⟩
          have sm : smL t E (f + 1) e = (true, [], x, x) := by rw [st, if_neg c1, hx]
          have kF : kI F t E x := by rw [hx]; exact kI_sk hF.1 (skB_id ib) sb.2
          rw [← hx] at sb
          have iX : x ≤ E := sb.2
          have lnF := lnI_ex p1 exF
          rw [sm] at he
          by_cases hp0 : p = 0
          · subst hp0
            have bx := tkE_b (t := t) iX
            have gx := skB_b (t := t) iX
            have hv : csT t E 0 (true, [], x, x) = if sgB t E x 60 = true then ((csU 12 (suS t E (sgE t E x 60))).1, (csU 12 (suS t E (sgE t E x 60))).2.1, (csU 12 (suS t E (sgE t E x 60))).2.2) else if sgB t E x 62 = true then ((csU 13 (suS t E (sgE t E x 62))).1, (csU 13 (suS t E (sgE t E x 62))).2.1, (csU 13 (suS t E (sgE t E x 62))).2.2) else (false, [], 0, skB t E x) := rfl
            have K151 : ∀ q y, q = 12 ∨ q = 13 → (33 ≤ y ∧ y < 48) ∨ (58 ≤ y ∧ y < 97) → sgB t E x y = true → sgK t E x = sgV q → csT t E 0 (true, [], x, x) = ((csU q (suS t E (sgE t E x y))).1, (csU q (suS t E (sgE t E x y))).2.1, (csU q (suS t E (sgE t E x y))).2.2) → EvP X (d + 3) gvm_32 151 [some (.ref 261), some (.int (nI (sgK t E x))), some (.int (zo (sgB t E e 43))), some (.int (nI m)), some (.int (nI l4))] [] (G, (mI F, j), cc) P := fun q y hq hy hg hk hc => by
              have e2 := (tkK_s iX hy hg).2
              have e3 : sgE t E x y = tkE t E x := by unfold sgE; rw [if_pos hg, e2]
              rw [hc, e3] at he
              refine w32_151 (t := t) (E := E) (i := x) hp261 ⟨kF.1, kF.2.2.2.1, bx.2, fun K hK => ?_⟩
              rw [c1', hk]
              refine ih (m + 1) 401 (tkE t E x) q false K (cs ++ ([(c, v)] ++ plL b)) _ (by omega) (by omega) (by omega) hK.1 (exL_fr exF hK.2.1) ?_ ((frR_3 hK.2).trans f3) (Or.inr hq) ?_
              · rw [kl]
                show A 64 2 + (cs.length + (1 + (plL b).length)) + 1 + 0 ≤ _
                omega
              · have eT : csT t E q (suX t E 401 false (tkE t E x)) = csU q (suS t E (tkE t E x)) := by
                  unfold csT; rw [if_neg (by omega), suX_0]
                rw [eT]; exact he
            refine w32_110 hp261 ⟨fun z => absurd z c1, fun _ => ⟨sv, fun _ => w32_129 (t := t) (E := E) (i := x) hp261 ⟨fun z => absurd z c1, fun _ => ⟨kF, by unfold sgK; (repeat' split) <;> omega, fun z => ?_, fun z C hC => ?_⟩⟩, fun z => absurd (show sgV 0 = 4294967295 from rfl) z⟩⟩
            · by_cases g1 : sgB t E x 60 = true
              · exact K151 12 60 (Or.inl rfl) (by decide) g1 (by unfold sgK; rw [if_pos g1]; rfl) (by rw [hv, if_pos g1])
              · by_cases g2 : sgB t E x 62 = true
                · exact K151 13 62 (Or.inr rfl) (by decide) g2 (by unfold sgK; rw [if_neg g1, if_pos g2]; rfl) (by rw [hv, if_neg g1, if_pos g2])
                · exact absurd (by unfold sgK; rw [if_neg g1, if_neg g2]) z
            · have g1 : ¬ sgB t E x 60 = true := fun g => by unfold sgK at z; rw [if_pos g] at z; omega
              have g2 : ¬ sgB t E x 62 = true := fun g => by unfold sgK at z; rw [if_neg g1, if_pos g] at z; omega
              rw [hv, if_neg g1, if_neg g2] at he
              obtain ⟨u1, u2, u3⟩ := ref_k kF hC
              have r1 : r.1 = false := he.1
              rw [← r1]
              exact hP C (lwQ_f r1 u1 (by rw [he.2.1]; exact u2) (fun q a b => (u3 q b).trans (exL_V exF q a b)))
          · have hv : csT t E p (true, [], x, x) = (true, [(p, 0)], x, x) := by
              unfold csT; rw [if_neg hp0]; rfl
            rw [hv] at he
            have hs : cdN p 0 = sgV p := by
              rcases hp with rfl | rfl | rfl
              · exact absurd rfl hp0
              · rfl
              · rfl
            refine w32_110 hp261 ⟨fun z => absurd z c1, fun _ => ⟨sv, fun z => absurd z (by unfold sgV; rw [if_neg hp0]; omega), fun _ => ⟨⟨lnF.1, lnF.2.1⟩, by omega, fun C hC => ?_⟩⟩⟩
            rw [hC]
            exact qz1 (hP _ (lwQ_eq he (lwQ_t rfl (kI_ad kF) (by rw [adC_q (by decide) (by decide) (by decide)]; exact f3) (exL_app exF (exL_ad hs))))) he.1
      have K77 : ∀ c v x l4, l4 < 4294967296 → cdN c v = x → ptS t E i = (true, [(c, v)], tkE t E i, skB t E i) → EvP X (d + 3) gvm_32 77 [some (.ref 261), some (.int (nI (sgV p))), some (.int (zo b)), some (.int (nI m)), some (.int (nI l4))] [.int (nI x), .ref 64] (G, (mI B, j), cc) P := fun c v x l4 hl hx hq => by
        have pb := ptS_b (t := t) iE (by rw [hq])
        rw [hq] at pb
        have pb1 : i + 1 ≤ tkE t E i := pb.1
        have e1 : exL A (adC B x) (cs ++ [(c, v)]) := exL_app ex (exL_ad hx)
        have l1 := lnI_ex p1 e1
        have kA : kI (adC B x) t E i := kI_ad k
        have h3' : adC B x 258 3 = A 258 3 := by rw [adC_q (by decide) (by decide) (by decide)]; exact h3
        have s2 : adC B x 64 2 = A 64 2 + (cs ++ [(c, v)]).length := e1.1
        rw [List.length_append] at s2
        refine w32_77 hp261 ⟨⟨ln.1, ln.2.1⟩, by omega, fun C hC => ⟨fun c1 => ?_, fun c1 => ⟨?_, ?_, fun D hD => ?_⟩⟩⟩
        · rw [hC]
          refine K93 c v _ l4 hl hq kA h3' ?_
          rw [show plL b = [] by rw [c1]; rfl, List.append_nil]; exact e1
        · rw [hC]; exact ⟨l1.1, l1.2.1⟩
        · rw [show plL b = [(11, 0)] by rw [c1]; rfl] at hb
          have hb' : A 64 2 + cs.length + 1 + 1 ≤ i := hb
          rw [hC, s2]
          show A 64 2 + (cs.length + 1) < 400
          omega
        · rw [hD, hC]
          refine K93 c v _ l4 hl hq (kI_ad kA) (by rw [adC_q (by decide) (by decide) (by decide)]; exact h3') ?_
          rw [show plL b = [(11, 0)] by rw [c1]; rfl, ← List.append_assoc]
          exact exL_app e1 (exL_ad rfl)
      refine w32_6 (t := t) (E := E) (i := i) hp261 ?_
      rw [wa_p iE]
      have wpl : wpR t (skB t E i) (ltE t E (skB t E i)) = 4294967295 ∨ wpR t (skB t E i) (ltE t E (skB t E i)) ≤ 6 := by
        unfold wpR; (repeat' split) <;> omega
      refine ⟨by omega, fun c => absurd c (by omega), fun _ => ⟨k, by decide, by omega, fun c1 => ?_, fun c1 => ⟨k, fun c2 => ?_, fun c2 C hC => ?_⟩⟩⟩
      · refine w32_51 hp261 ⟨by omega, fun _ => ?_, fun c3 => absurd c3 c1⟩
        refine K77 _ 0 _ _ (by omega) ?_ (ptS_w iE c1).2
        unfold cdN; rw [if_pos (by omega)]
      · have nv := nd_t c2
        obtain ⟨v6, hq⟩ := ptS_n k nv
        refine w32_51 hp261 ⟨by omega, fun c3 => absurd c1 c3, fun _ => ?_⟩
        rw [v6]
        exact K77 10 _ _ _ (by omega) rfl hq
      · have nv := nd_f c2
        obtain ⟨q1, q2⟩ := ptS_f c1 nv
        obtain ⟨u1, u2, u3⟩ := ref_k k hC
        have sx : suX t E (f + 1) b i = (false, [], 0, skB t E i) := by
          unfold suX; rw [if_neg (by rw [q1]; decide), q2]
        have ct : csT t E p (false, [], 0, skB t E i) = (false, [], 0, skB t E i) := by
          unfold csT
          by_cases z : p = 0
          · rw [if_pos z]; rfl
          · rw [if_neg z]; rfl
        rw [sx, ct] at he
        have r1 : r.1 = false := he.1
        rw [← r1]
        exact hP C (lwQ_f r1 u1 (by rw [he.2.1]; exact u2) (fun q a b => (u3 q b).trans (exL_V ex q a b)))
  refine w32 hp261 (L 401 0 401 i 0 false A [] none rfl (by omega) (by omega) p0 (exL_nil p1 (fun _ _ => rfl)) ?_ rfl (Or.inl rfl) (by rw [hr]; exact cmS_T p0.2.1))
  show A 64 2 + 0 + 1 + 0 ≤ i
  omega
theorem c_readComparison {X : gv_X} {d : Nat} {G : gv_Sh} {A : Nat → Nat → Nat} {j : Nat → Nat → Int64} {cc : gv_Rs} {t : Nat → Nat} {E : Nat} {i : Nat} (hp261 : oX3 G 261) (p0 : kI A t E i) (p1 : lnI A) (p2 : A 64 2 + 1 ≤ i) : ∃ A1 : Nat → Nat → Nat, Ev X (d + 3) gvm_32 0 (gv_enter [.ref 261] 5) [] (G, (mI A, j), cc) (.inl (some (.int (zo ((cmS t E i).1)))), (G, (mI A1, j), cc)) ∧ (lwQ A A1 t E (cmS t E i)) := by
  obtain ⟨_, h, A1, rfl, hp⟩ := c_readComparison_p (X := X) (d := d) (G := G) (A := A) (j := j) (cc := cc) (t := t) (E := E) (i := i) (P := fun r => ∃ A1 : Nat → Nat → Nat, r = (.inl (some (.int (zo ((cmS t E i).1)))), (G, (mI A1, j), cc)) ∧ (lwQ A A1 t E (cmS t E i))) hp261 p0 p1 p2 (fun A1 h => ⟨A1, rfl, h⟩)
  exact ⟨A1, h, hp⟩
