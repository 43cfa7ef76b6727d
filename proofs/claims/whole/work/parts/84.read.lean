/-! conditions of the law -/
def cmS (t : Nat → Nat) (E i : Nat) : LwS := if (suS t E (skB t E i)).1 = true then
    (if sgB t E (suS t E (skB t E i)).2.2.1 60 = true then (if (suS t E (sgE t E (suS t E (skB t E i)).2.2.1 60)).1 = true then (true, (suS t E (skB t E i)).2.1 ++ ((suS t E (sgE t E (suS t E (skB t E i)).2.2.1 60)).2.1 ++ [(12, 0)]), (suS t E (sgE t E (suS t E (skB t E i)).2.2.1 60)).2.2) else (false, [], 0, (suS t E (sgE t E (suS t E (skB t E i)).2.2.1 60)).2.2.2))
     else if sgB t E (suS t E (skB t E i)).2.2.1 62 = true then (if (suS t E (sgE t E (suS t E (skB t E i)).2.2.1 62)).1 = true then (true, (suS t E (skB t E i)).2.1 ++ ((suS t E (sgE t E (suS t E (skB t E i)).2.2.1 62)).2.1 ++ [(13, 0)]), (suS t E (sgE t E (suS t E (skB t E i)).2.2.1 62)).2.2) else (false, [], 0, (suS t E (sgE t E (suS t E (skB t E i)).2.2.1 62)).2.2.2))
     else (false, [], 0, skB t E (suS t E (skB t E i)).2.2.1))
  else (false, [], 0, (suS t E (skB t E i)).2.2.2)
/-- mode 0 an atom, 1 atoms and, 2 a condition, 3 and 4 what follows -/
def pG (t : Nat → Nat) (E : Nat) : Nat → Nat → Nat → Nat → LwS
  | 0, _, _, i => (true, [], i, i)
  | f + 1, m, k, i =>
    if m = 0 then (if sgB t E i 40 = true then
      (if k = 6 then (false, [], 0, skB t E i)
       else if (pG t E f 2 (k + 1) (sgE t E i 40)).1 = true then (if sgB t E (pG t E f 2 (k + 1) (sgE t E i 40)).2.2.1 41 = true then (true, (pG t E f 2 (k + 1) (sgE t E i 40)).2.1, sgE t E (pG t E f 2 (k + 1) (sgE t E i 40)).2.2.1 41, skB t E (pG t E f 2 (k + 1) (sgE t E i 40)).2.2.1) else (false, [], 0, skB t E (pG t E f 2 (k + 1) (sgE t E i 40)).2.2.1)) else (false, [], 0, (pG t E f 2 (k + 1) (sgE t E i 40)).2.2.2))
    else if psB t E i 8 = true then
      (if k = 6 then (false, [], 0, skB t E i)
       else if (pG t E f 0 (k + 1) (psE t E i 8)).1 = true then (true, (pG t E f 0 (k + 1) (psE t E i 8)).2.1 ++ [(14, 0)], (pG t E f 0 (k + 1) (psE t E i 8)).2.2) else (false, [], 0, (pG t E f 0 (k + 1) (psE t E i 8)).2.2.2))
    else if ¬ tgR t (skB t E i) (ltE t E (skB t E i)) = 4294967295 then (true, [(tgR t (skB t E i) (ltE t E (skB t E i)), 0)], ltE t E (skB t E i), skB t E i)
    else cmS t E i)
    else if m = 1 then (if (pG t E f 0 k i).1 = true then ((pG t E f 3 k (pG t E f 0 k i).2.2.1).1, (pG t E f 0 k i).2.1 ++ (pG t E f 3 k (pG t E f 0 k i).2.2.1).2.1, (pG t E f 3 k (pG t E f 0 k i).2.2.1).2.2) else (false, [], 0, (pG t E f 0 k i).2.2.2))
    else if m = 2 then (if (pG t E f 1 k i).1 = true then ((pG t E f 4 k (pG t E f 1 k i).2.2.1).1, (pG t E f 1 k i).2.1 ++ (pG t E f 4 k (pG t E f 1 k i).2.2.1).2.1, (pG t E f 4 k (pG t E f 1 k i).2.2.1).2.2) else (false, [], 0, (pG t E f 1 k i).2.2.2))
    else if m = 3 then (if psB t E i 7 = true then (if (pG t E f 0 k (psE t E i 7)).1 = true then ((pG t E f 3 k (pG t E f 0 k (psE t E i 7)).2.2.1).1, (pG t E f 0 k (psE t E i 7)).2.1 ++ ([(15, 0)] ++ (pG t E f 3 k (pG t E f 0 k (psE t E i 7)).2.2.1).2.1), (pG t E f 3 k (pG t E f 0 k (psE t E i 7)).2.2.1).2.2) else (false, [], 0, (pG t E f 0 k (psE t E i 7)).2.2.2)) else (true, [], skB t E i, skB t E i))
    else (if psB t E i 6 = true then (if (pG t E f 1 k (psE t E i 6)).1 = true then ((pG t E f 4 k (pG t E f 1 k (psE t E i 6)).2.2.1).1, (pG t E f 1 k (psE t E i 6)).2.1 ++ ([(16, 0)] ++ (pG t E f 4 k (pG t E f 1 k (psE t E i 6)).2.2.1).2.1), (pG t E f 4 k (pG t E f 1 k (psE t E i 6)).2.2.1).2.2) else (false, [], 0, (pG t E f 1 k (psE t E i 6)).2.2.2)) else (true, [], skB t E i, skB t E i))
theorem wl_7 : wl 7 = 3 ∧ wl 6 = 2 ∧ wl 8 = 3 := by decide +kernel
/-- a word that is passed has its length -/
theorem psE_w {t : Nat → Nat} {E i q : Nat} (h : i ≤ E) (e : psB t E i q = true) : psE t E i q = skB t E i + wl q ∧ psE t E i q ≤ E := by
  have b := psE_b (t := t) (q := q) h
  refine ⟨?_, b.2⟩
  have b1 := skB_b (t := t) h
  have b2 := ltE_b (t := t) b1.2
  have e1 := e
  unfold psB mt at e1
  rw [Bool.and_eq_true] at e1
  have e2 := of_decide_eq_true e1.1
  unfold psE
  rw [if_pos e]
  omega
theorem cmS_b {t : Nat → Nat} {E i : Nat} (hi : i ≤ E) (h : (cmS t E i).1 = true) : i + (cmS t E i).2.1.length ≤ (cmS t E i).2.2.1 ∧ (cmS t E i).2.2.1 ≤ E := by
  have b := skB_b (t := t) hi
  unfold cmS at h ⊢
  by_cases e : (suS t E (skB t E i)).1 = true
  · rw [if_pos e] at h ⊢
    have s := suS_b b.2 e
    by_cases e2 : sgB t E (suS t E (skB t E i)).2.2.1 60 = true
    · rw [if_pos e2] at h ⊢
      have g := sgE_b (t := t) (c := 60) s.2
      by_cases e3 : (suS t E (sgE t E (suS t E (skB t E i)).2.2.1 60)).1 = true
      · rw [if_pos e3] at h ⊢
        have s2 := suS_b g.2.1 e3
        have := g.2.2.1 e2
        have b2 := skB_b (t := t) s.2
        refine ⟨?_, s2.2⟩
        show i + ((suS t E (skB t E i)).2.1 ++ ((suS t E (sgE t E (suS t E (skB t E i)).2.2.1 60)).2.1 ++ [(12, 0)])).length ≤ (suS t E (sgE t E (suS t E (skB t E i)).2.2.1 60)).2.2.1
        rw [List.length_append, List.length_append]
        show i + ((suS t E (skB t E i)).2.1.length + ((suS t E (sgE t E (suS t E (skB t E i)).2.2.1 60)).2.1.length + 1)) ≤ _
        omega
      · rw [if_neg e3] at h; cases h
    · rw [if_neg e2] at h ⊢
      by_cases e4 : sgB t E (suS t E (skB t E i)).2.2.1 62 = true
      · rw [if_pos e4] at h ⊢
        have g := sgE_b (t := t) (c := 62) s.2
        by_cases e3 : (suS t E (sgE t E (suS t E (skB t E i)).2.2.1 62)).1 = true
        · rw [if_pos e3] at h ⊢
          have s2 := suS_b g.2.1 e3
          have := g.2.2.1 e4
          have b2 := skB_b (t := t) s.2
          refine ⟨?_, s2.2⟩
          show i + ((suS t E (skB t E i)).2.1 ++ ((suS t E (sgE t E (suS t E (skB t E i)).2.2.1 62)).2.1 ++ [(13, 0)])).length ≤ (suS t E (sgE t E (suS t E (skB t E i)).2.2.1 62)).2.2.1
          rw [List.length_append, List.length_append]
          show i + ((suS t E (skB t E i)).2.1.length + ((suS t E (sgE t E (suS t E (skB t E i)).2.2.1 62)).2.1.length + 1)) ≤ _
          omega
        · rw [if_neg e3] at h; cases h
      · rw [if_neg e4] at h; cases h
  · rw [if_neg e] at h; cases h
theorem w238 {X : gv_X} {d : Nat} {G : gv_Sh} {A : Nat → Nat → Nat} {j : Nat → Nat → Int64} {cc : gv_Rs} {P : gv_O × gv_S → Prop}  (hp263 : oX12 G 263) {f k : Nat} (hCo : ∀ {A : Nat → Nat → Nat}, (A 263 11 ≤ 400) → (A 263 10 ≤ A 263 11) → (∀ i, i < 400 → A 269 i < 4294967296) → (A 263 16 + 1 ≤ A 263 10) → (A 263 13 ≤ 6) → (5 * (A 263 11 - A 263 10) + 4 ≤ f) → (A 263 13 = (k + 1)) → ∃ A1 : Nat → Nat → Nat, Ev X (d + 5) gvm_240 0 (gv_enter [.ref 263] 1) [] (G, (mI A, j), cc) (.inl (some (.int (zo (pG (A 269) (A 263 11) f 2 (A 263 13) (A 263 10)).1))), (G, (mI A1, j), cc)) ∧ (lwP A A1 (pG (A 269) (A 263 11) f 2 (A 263 13) (A 263 10)))) (hAt : ∀ {A : Nat → Nat → Nat}, (A 263 11 ≤ 400) → (A 263 10 ≤ A 263 11) → (∀ i, i < 400 → A 269 i < 4294967296) → (A 263 16 + 1 ≤ A 263 10) → (A 263 13 ≤ 6) → (5 * (A 263 11 - A 263 10) + 1 ≤ f) → (A 263 13 = (k + 1)) → ∃ A1 : Nat → Nat → Nat, Ev X (d + 5) gvm_238 0 (gv_enter [.ref 263] 2) [] (G, (mI A, j), cc) (.inl (some (.int (zo (pG (A 269) (A 263 11) f 0 (A 263 13) (A 263 10)).1))), (G, (mI A1, j), cc)) ∧ (lwP A A1 (pG (A 269) (A 263 11) f 0 (A 263 13) (A 263 10)))) (H : (A 263 11 ≤ 400) ∧ ((A 263 10 ≤ A 263 11) ∧ ((∀ i, i < 400 → A 269 i < 4294967296) ∧ ((1 ≤ 40 ∧ 40 < 128) ∧ ((∀ A1 : Nat → Nat → Nat, A1 = (lx A (sgE (A 269) (A 263 11) (A 263 10) 40) (skB (A 269) (A 263 11) (A 263 10))) → (((sgB (A 269) (A 263 11) (A 263 10) 40) = false) → (A1 263 11 ≤ 400) ∧ ((A1 263 10 ≤ A1 263 11) ∧ ((∀ i, i < 400 → A1 269 i < 4294967296) ∧ ((1 ≤ 8 ∧ 8 < 40) ∧ ((∀ A3 : Nat → Nat → Nat, A3 = (lx A1 (psE (A1 269) (A1 263 11) (A1 263 10) 8) (skB (A1 269) (A1 263 11) (A1 263 10))) → (((psB (A1 269) (A1 263 11) (A1 263 10) 8) = false) → (A3 263 11 ≤ 400) ∧ ((A3 263 10 ≤ A3 263 11) ∧ ((∀ i, i < 400 → A3 269 i < 4294967296) ∧ ((A3 263 16 + 1 ≤ A3 263 10) ∧ ((∀ A1v3 : Nat → Nat → Nat, (((tgR (A3 269) (skB (A3 269) (A3 263 11) (A3 263 10)) (ltE (A3 269) (A3 263 11) (skB (A3 269) (A3 263 11) (A3 263 10)))) = 4294967295 → A1v3 = ry A3 (A3 264) (skB (A3 269) (A3 263 11) (A3 263 10)) (skB (A3 269) (A3 263 11) (A3 263 10)) (A3 263 16) (A3 263 13)) ∧ (¬ (tgR (A3 269) (skB (A3 269) (A3 263 11) (A3 263 10)) (ltE (A3 269) (A3 263 11) (skB (A3 269) (A3 263 11) (A3 263 10)))) = 4294967295 → A1v3 = ry A3 (emC (A3 264) (A3 263 16) (tgR (A3 269) (skB (A3 269) (A3 263 11) (A3 263 10)) (ltE (A3 269) (A3 263 11) (skB (A3 269) (A3 263 11) (A3 263 10)))) 0) (ltE (A3 269) (A3 263 11) (skB (A3 269) (A3 263 11) (A3 263 10))) (skB (A3 269) (A3 263 11) (A3 263 10)) (A3 263 16 + 1) (A3 263 13))) → ((¬ (¬ (tgR (A3 269) (skB (A3 269) (A3 263 11) (A3 263 10)) (ltE (A3 269) (A3 263 11) (skB (A3 269) (A3 263 11) (A3 263 10)))) = 4294967295)) → (A1v3 263 11 ≤ 400) ∧ ((A1v3 263 10 ≤ A1v3 263 11) ∧ ((∀ i, i < 400 → A1v3 269 i < 4294967296) ∧ ((A1v3 263 16 + 1 ≤ A1v3 263 10) ∧ ((∀ A1v4 : Nat → Nat → Nat, ((lwP A1v3 A1v4 (suS (A1v3 269) (A1v3 263 11) (A1v3 263 10)))) → (((suS (A1v3 269) (A1v3 263 11) (A1v3 263 10)).1 = true) → (A1v4 263 11 ≤ 400) ∧ ((A1v4 263 10 ≤ A1v4 263 11) ∧ ((∀ i, i < 400 → A1v4 269 i < 4294967296) ∧ ((1 ≤ 60 ∧ 60 < 128) ∧ ((∀ A9 : Nat → Nat → Nat, A9 = (lx A1v4 (sgE (A1v4 269) (A1v4 263 11) (A1v4 263 10) 60) (skB (A1v4 269) (A1v4 263 11) (A1v4 263 10))) → (((sgB (A1v4 269) (A1v4 263 11) (A1v4 263 10) 60) = true) → (A9 263 11 ≤ 400) ∧ ((A9 263 10 ≤ A9 263 11) ∧ ((∀ i, i < 400 → A9 269 i < 4294967296) ∧ ((A9 263 16 + 1 ≤ A9 263 10) ∧ ((∀ A1v6 : Nat → Nat → Nat, ((lwP A9 A1v6 (suS (A9 269) (A9 263 11) (A9 263 10)))) → (((suS (A9 269) (A9 263 11) (A9 263 10)).1 = true) → (A1v6 263 16 ≤ 399) ∧ ((∀ A14 : Nat → Nat → Nat, A14 = (ry A1v6 (emC (A1v6 264) (A1v6 263 16) 12 0) (A1v6 263 10) (A1v6 263 12) (A1v6 263 16 + 1) (A1v6 263 13)) → P (.inl (some (.int (nI 1))), (G, (mI A14, j), cc))))) ∧ (((suS (A9 269) (A9 263 11) (A9 263 10)).1 = false) → P (.inl (some (.int (nI 0))), (G, (mI A1v6, j), cc))))))))) ∧ (((sgB (A1v4 269) (A1v4 263 11) (A1v4 263 10) 60) = false) → (A9 263 11 ≤ 400) ∧ ((A9 263 10 ≤ A9 263 11) ∧ ((∀ i, i < 400 → A9 269 i < 4294967296) ∧ ((1 ≤ 62 ∧ 62 < 128) ∧ ((∀ A15 : Nat → Nat → Nat, A15 = (lx A9 (sgE (A9 269) (A9 263 11) (A9 263 10) 62) (skB (A9 269) (A9 263 11) (A9 263 10))) → (((sgB (A9 269) (A9 263 11) (A9 263 10) 62) = false) → P (.inl (some (.int (nI 0))), (G, (mI A15, j), cc))) ∧ (((sgB (A9 269) (A9 263 11) (A9 263 10) 62) = true) → (A15 263 11 ≤ 400) ∧ ((A15 263 10 ≤ A15 263 11) ∧ ((∀ i, i < 400 → A15 269 i < 4294967296) ∧ ((A15 263 16 + 1 ≤ A15 263 10) ∧ ((∀ A1v9 : Nat → Nat → Nat, ((lwP A15 A1v9 (suS (A15 269) (A15 263 11) (A15 263 10)))) → (((suS (A15 269) (A15 263 11) (A15 263 10)).1 = true) → (A1v9 263 16 ≤ 399) ∧ ((∀ A20 : Nat → Nat → Nat, A20 = (ry A1v9 (emC (A1v9 264) (A1v9 263 16) 13 0) (A1v9 263 10) (A1v9 263 12) (A1v9 263 16 + 1) (A1v9 263 13)) → P (.inl (some (.int (nI 1))), (G, (mI A20, j), cc))))) ∧ (((suS (A15 269) (A15 263 11) (A15 263 10)).1 = false) → P (.inl (some (.int (nI 0))), (G, (mI A1v9, j), cc))))))))))))))))))))) ∧ (((suS (A1v3 269) (A1v3 263 11) (A1v3 263 10)).1 = false) → P (.inl (some (.int (nI 0))), (G, (mI A1v4, j), cc))))))))) ∧ ((¬ (tgR (A3 269) (skB (A3 269) (A3 263 11) (A3 263 10)) (ltE (A3 269) (A3 263 11) (skB (A3 269) (A3 263 11) (A3 263 10)))) = 4294967295) → P (.inl (some (.int (nI 1))), (G, (mI A1v3, j), cc))))))))) ∧ (((psB (A1 269) (A1 263 11) (A1 263 10) 8) = true) → ((A3 263 13) < 4294967296) ∧ (((¬ (A3 263 13) = 6) → ((gu A3 263 13 ((A3 263 13) + 1)) 263 11 ≤ 400) ∧ (((gu A3 263 13 ((A3 263 13) + 1)) 263 10 ≤ (gu A3 263 13 ((A3 263 13) + 1)) 263 11) ∧ ((∀ i, i < 400 → A3 269 i < 4294967296) ∧ (((gu A3 263 13 ((A3 263 13) + 1)) 263 16 + 1 ≤ (gu A3 263 13 ((A3 263 13) + 1)) 263 10) ∧ (((gu A3 263 13 ((A3 263 13) + 1)) 263 13 ≤ 6) ∧ ((5 * ((gu A3 263 13 ((A3 263 13) + 1)) 263 11 - (gu A3 263 13 ((A3 263 13) + 1)) 263 10) + 1 ≤ f) ∧ (((gu A3 263 13 ((A3 263 13) + 1)) 263 13 = (k + 1)) ∧ ((∀ A1v11 : Nat → Nat → Nat, ((lwP (gu A3 263 13 ((A3 263 13) + 1)) A1v11 (pG (A3 269) ((gu A3 263 13 ((A3 263 13) + 1)) 263 11) f 0 ((gu A3 263 13 ((A3 263 13) + 1)) 263 13) ((gu A3 263 13 ((A3 263 13) + 1)) 263 10)))) → (((pG (A3 269) ((gu A3 263 13 ((A3 263 13) + 1)) 263 11) f 0 ((gu A3 263 13 ((A3 263 13) + 1)) 263 13) ((gu A3 263 13 ((A3 263 13) + 1)) 263 10)).1 = true) → (1 ≤ (A1v11 263 13)) ∧ (((gu A1v11 263 13 ((A1v11 263 13) - 1)) 263 16 ≤ 399) ∧ ((∀ A24 : Nat → Nat → Nat, A24 = (ry (gu A1v11 263 13 ((A1v11 263 13) - 1)) (emC (A1v11 264) ((gu A1v11 263 13 ((A1v11 263 13) - 1)) 263 16) 14 0) ((gu A1v11 263 13 ((A1v11 263 13) - 1)) 263 10) ((gu A1v11 263 13 ((A1v11 263 13) - 1)) 263 12) ((gu A1v11 263 13 ((A1v11 263 13) - 1)) 263 16 + 1) ((gu A1v11 263 13 ((A1v11 263 13) - 1)) 263 13)) → P (.inl (some (.int (nI 1))), (G, (mI A24, j), cc)))))) ∧ (((pG (A3 269) ((gu A3 263 13 ((A3 263 13) + 1)) 263 11) f 0 ((gu A3 263 13 ((A3 263 13) + 1)) 263 13) ((gu A3 263 13 ((A3 263 13) + 1)) 263 10)).1 = false) → P (.inl (some (.int (nI 0))), (G, (mI A1v11, j), cc)))))))))))) ∧ (((A3 263 13) = 6) → P (.inl (some (.int (nI 0))), (G, (mI A3, j), cc))))))))))) ∧ (((sgB (A 269) (A 263 11) (A 263 10) 40) = true) → ((A1 263 13) < 4294967296) ∧ (((¬ (A1 263 13) = 6) → ((gu A1 263 13 ((A1 263 13) + 1)) 263 11 ≤ 400) ∧ (((gu A1 263 13 ((A1 263 13) + 1)) 263 10 ≤ (gu A1 263 13 ((A1 263 13) + 1)) 263 11) ∧ ((∀ i, i < 400 → A1 269 i < 4294967296) ∧ (((gu A1 263 13 ((A1 263 13) + 1)) 263 16 + 1 ≤ (gu A1 263 13 ((A1 263 13) + 1)) 263 10) ∧ (((gu A1 263 13 ((A1 263 13) + 1)) 263 13 ≤ 6) ∧ ((5 * ((gu A1 263 13 ((A1 263 13) + 1)) 263 11 - (gu A1 263 13 ((A1 263 13) + 1)) 263 10) + 4 ≤ f) ∧ (((gu A1 263 13 ((A1 263 13) + 1)) 263 13 = (k + 1)) ∧ ((∀ A1v13 : Nat → Nat → Nat, ((lwP (gu A1 263 13 ((A1 263 13) + 1)) A1v13 (pG (A1 269) ((gu A1 263 13 ((A1 263 13) + 1)) 263 11) f 2 ((gu A1 263 13 ((A1 263 13) + 1)) 263 13) ((gu A1 263 13 ((A1 263 13) + 1)) 263 10)))) → (((pG (A1 269) ((gu A1 263 13 ((A1 263 13) + 1)) 263 11) f 2 ((gu A1 263 13 ((A1 263 13) + 1)) 263 13) ((gu A1 263 13 ((A1 263 13) + 1)) 263 10)).1 = true) → (1 ≤ (A1v13 263 13)) ∧ (((gu A1v13 263 13 ((A1v13 263 13) - 1)) 263 11 ≤ 400) ∧ (((gu A1v13 263 13 ((A1v13 263 13) - 1)) 263 10 ≤ (gu A1v13 263 13 ((A1v13 263 13) - 1)) 263 11) ∧ ((∀ i, i < 400 → A1v13 269 i < 4294967296) ∧ ((1 ≤ 41 ∧ 41 < 128) ∧ ((∀ A28 : Nat → Nat → Nat, A28 = (lx (gu A1v13 263 13 ((A1v13 263 13) - 1)) (sgE (A1v13 269) ((gu A1v13 263 13 ((A1v13 263 13) - 1)) 263 11) ((gu A1v13 263 13 ((A1v13 263 13) - 1)) 263 10) 41) (skB (A1v13 269) ((gu A1v13 263 13 ((A1v13 263 13) - 1)) 263 11) ((gu A1v13 263 13 ((A1v13 263 13) - 1)) 263 10))) → P (.inl (some (.int (zo (sgB (A1v13 269) ((gu A1v13 263 13 ((A1v13 263 13) - 1)) 263 11) ((gu A1v13 263 13 ((A1v13 263 13) - 1)) 263 10) 41)))), (G, (mI A28, j), cc))))))))) ∧ (((pG (A1 269) ((gu A1 263 13 ((A1 263 13) + 1)) 263 11) f 2 ((gu A1 263 13 ((A1 263 13) + 1)) 263 13) ((gu A1 263 13 ((A1 263 13) + 1)) 263 10)).1 = false) → P (.inl (some (.int (nI 0))), (G, (mI A1v13, j), cc)))))))))))) ∧ (((A1 263 13) = 6) → P (.inl (some (.int (nI 0))), (G, (mI A1, j), cc))))))))))) : EvP X (d + 6) gvm_238 0 (gv_enter [.ref 263] 2) [] (G, (mI A, j), cc) P :=
  (pv_aload_n rfl rfl   (pn_bipush rfl rfl   (match (⟨(lx A (sgE (A 269) (A 263 11) (A 263 10) 40) (skB (A 269) (A 263 11) (A 263 10))), rfl⟩ : ∃ Z : Nat → Nat → Nat, Z = (lx A (sgE (A 269) (A 263 11) (A 263 10) 40) (skB (A 269) (A 263 11) (A 263 10)))) with | ⟨A1, q1⟩ => pv_virt rfl rfl rfl rfl rfl (oX12_k hp263) rfl rfl rfl (ev_eqM q1 (r_sign (c := 40) (A := A) hp263 H.1 H.2.1 H.2.2.1 H.2.2.2.1 )) (pv_if_eq_zo rfl  (fun c2 => (pv_aload_n rfl rfl   (pv_ldcS rfl   (match (⟨(lx A1 (psE (A1 269) (A1 263 11) (A1 263 10) 8) (skB (A1 269) (A1 263 11) (A1 263 10))), rfl⟩ : ∃ Z : Nat → Nat → Nat, Z = (lx A1 (psE (A1 269) (A1 263 11) (A1 263 10) 8) (skB (A1 269) (A1 263 11) (A1 263 10)))) with | ⟨A3, q3⟩ => pv_virt rfl rfl rfl rfl rfl (oX12_k hp263) rfl rfl rfl (ev_eqM q3 (r_passes (q := 8) (A := A1) hp263 ((H.2.2.2.2 A1 q1).1 c2).1 ((H.2.2.2.2 A1 q1).1 c2).2.1 ((H.2.2.2.2 A1 q1).1 c2).2.2.1 ((H.2.2.2.2 A1 q1).1 c2).2.2.2.1 )) (pv_if_eq_zo rfl  (fun c4 => (pv_aload_n rfl rfl   (match (r_readTag (A := A3) (X := X) (d := d + 2) (G := G) (j := j) (cc := cc) hp263 ((((H.2.2.2.2 A1 q1).1 c2).2.2.2.2 A3 q3).1 c4).1 ((((H.2.2.2.2 A1 q1).1 c2).2.2.2.2 A3 q3).1 c4).2.1 ((((H.2.2.2.2 A1 q1).1 c2).2.2.2.2 A3 q3).1 c4).2.2.1 ((((H.2.2.2.2 A1 q1).1 c2).2.2.2.2 A3 q3).1 c4).2.2.2.1 ) with | ⟨A1v3, e10x115, h5⟩ => pv_virt rfl rfl rfl rfl rfl (oX12_k hp263) rfl rfl rfl e10x115 (pv_if_eq_dc rfl  (fun c6 => (pv_aload_n rfl rfl   (match (r_readSum (A := A1v3) (X := X) (d := d + 1) (G := G) (j := j) (cc := cc) hp263 ((((((H.2.2.2.2 A1 q1).1 c2).2.2.2.2 A3 q3).1 c4).2.2.2.2 A1v3 h5).1 c6).1 ((((((H.2.2.2.2 A1 q1).1 c2).2.2.2.2 A3 q3).1 c4).2.2.2.2 A1v3 h5).1 c6).2.1 ((((((H.2.2.2.2 A1 q1).1 c2).2.2.2.2 A3 q3).1 c4).2.2.2.2 A1v3 h5).1 c6).2.2.1 ((((((H.2.2.2.2 A1 q1).1 c2).2.2.2.2 A3 q3).1 c4).2.2.2.2 A1v3 h5).1 c6).2.2.2.1 ) with | ⟨A1v4, e10x124, h7⟩ => pv_virt rfl rfl rfl rfl rfl (oX12_k hp263) rfl rfl rfl e10x124 (pv_if_ne_zo rfl  (fun c8 => (pv_aload_n rfl rfl   (pn_bipush rfl rfl   (match (⟨(lx A1v4 (sgE (A1v4 269) (A1v4 263 11) (A1v4 263 10) 60) (skB (A1v4 269) (A1v4 263 11) (A1v4 263 10))), rfl⟩ : ∃ Z : Nat → Nat → Nat, Z = (lx A1v4 (sgE (A1v4 269) (A1v4 263 11) (A1v4 263 10) 60) (skB (A1v4 269) (A1v4 263 11) (A1v4 263 10)))) with | ⟨A9, q9⟩ => pv_virt rfl rfl rfl rfl rfl (oX12_k hp263) rfl rfl rfl (ev_eqM q9 (r_sign (c := 60) (A := A1v4) hp263 ((((((((H.2.2.2.2 A1 q1).1 c2).2.2.2.2 A3 q3).1 c4).2.2.2.2 A1v3 h5).1 c6).2.2.2.2 A1v4 h7).1 c8).1 ((((((((H.2.2.2.2 A1 q1).1 c2).2.2.2.2 A3 q3).1 c4).2.2.2.2 A1v3 h5).1 c6).2.2.2.2 A1v4 h7).1 c8).2.1 ((((((((H.2.2.2.2 A1 q1).1 c2).2.2.2.2 A3 q3).1 c4).2.2.2.2 A1v3 h5).1 c6).2.2.2.2 A1v4 h7).1 c8).2.2.1 ((((((((H.2.2.2.2 A1 q1).1 c2).2.2.2.2 A3 q3).1 c4).2.2.2.2 A1v3 h5).1 c6).2.2.2.2 A1v4 h7).1 c8).2.2.2.1 )) (pv_istore_n rfl rfl   (pv_iload_n rfl rfl   (pv_if_ne_zo rfl  (fun c10 => (pv_aload_n rfl rfl   (match (r_readSum (A := A9) (X := X) (d := d + 1) (G := G) (j := j) (cc := cc) hp263 ((((((((((H.2.2.2.2 A1 q1).1 c2).2.2.2.2 A3 q3).1 c4).2.2.2.2 A1v3 h5).1 c6).2.2.2.2 A1v4 h7).1 c8).2.2.2.2 A9 q9).1 c10).1 ((((((((((H.2.2.2.2 A1 q1).1 c2).2.2.2.2 A3 q3).1 c4).2.2.2.2 A1v3 h5).1 c6).2.2.2.2 A1v4 h7).1 c8).2.2.2.2 A9 q9).1 c10).2.1 ((((((((((H.2.2.2.2 A1 q1).1 c2).2.2.2.2 A3 q3).1 c4).2.2.2.2 A1v3 h5).1 c6).2.2.2.2 A1v4 h7).1 c8).2.2.2.2 A9 q9).1 c10).2.2.1 ((((((((((H.2.2.2.2 A1 q1).1 c2).2.2.2.2 A3 q3).1 c4).2.2.2.2 A1v3 h5).1 c6).2.2.2.2 A1v4 h7).1 c8).2.2.2.2 A9 q9).1 c10).2.2.2.1 ) with | ⟨A1v6, e7x153, h11⟩ => pv_virt rfl rfl rfl rfl rfl (oX12_k hp263) rfl rfl rfl e7x153 (pv_if_ne_zo rfl  (fun c12 => (pv_aload_n rfl rfl   (pv_iload_n rfl rfl   (pv_if_eq_zo rfl (fun c13 => absurd (c13.symm.trans c10) (by decide)) (fun _ => (pn_bipush rfl rfl   (pv_goto rfl (pn_iconst rfl rfl   (match (⟨(ry A1v6 (emC (A1v6 264) (A1v6 263 16) 12 0) (A1v6 263 10) (A1v6 263 12) (A1v6 263 16 + 1) (A1v6 263 13)), rfl⟩ : ∃ Z : Nat → Nat → Nat, Z = (ry A1v6 (emC (A1v6 264) (A1v6 263 16) 12 0) (A1v6 263 10) (A1v6 263 12) (A1v6 263 16 + 1) (A1v6 263 13))) with | ⟨A14, q14⟩ => pv_virt rfl rfl rfl rfl rfl (oX12_k hp263) rfl rfl rfl (ev_eqM q14 (r_emits (code := 12) (n := 0) (A := A1v6) hp263 ((((((((((((H.2.2.2.2 A1 q1).1 c2).2.2.2.2 A3 q3).1 c4).2.2.2.2 A1v3 h5).1 c6).2.2.2.2 A1v4 h7).1 c8).2.2.2.2 A9 q9).1 c10).2.2.2.2 A1v6 h11).1 c12).1 )) (pn_iconst rfl rfl   (pv_iretz rfl rfl (Or.inr rfl) (((((((((((((H.2.2.2.2 A1 q1).1 c2).2.2.2.2 A3 q3).1 c4).2.2.2.2 A1v3 h5).1 c6).2.2.2.2 A1v4 h7).1 c8).2.2.2.2 A9 q9).1 c10).2.2.2.2 A1v6 h11).1 c12).2 A14 q14)))))))))))) (fun c12 => (pn_iconst rfl rfl   (pv_iretz rfl rfl (Or.inl rfl) ((((((((((((H.2.2.2.2 A1 q1).1 c2).2.2.2.2 A3 q3).1 c4).2.2.2.2 A1v3 h5).1 c6).2.2.2.2 A1v4 h7).1 c8).2.2.2.2 A9 q9).1 c10).2.2.2.2 A1v6 h11).2 c12)))))))) (fun c10 => (pv_aload_n rfl rfl   (pn_bipush rfl rfl   (match (⟨(lx A9 (sgE (A9 269) (A9 263 11) (A9 263 10) 62) (skB (A9 269) (A9 263 11) (A9 263 10))), rfl⟩ : ∃ Z : Nat → Nat → Nat, Z = (lx A9 (sgE (A9 269) (A9 263 11) (A9 263 10) 62) (skB (A9 269) (A9 263 11) (A9 263 10)))) with | ⟨A15, q15⟩ => pv_virt rfl rfl rfl rfl rfl (oX12_k hp263) rfl rfl rfl (ev_eqM q15 (r_sign (c := 62) (A := A9) hp263 ((((((((((H.2.2.2.2 A1 q1).1 c2).2.2.2.2 A3 q3).1 c4).2.2.2.2 A1v3 h5).1 c6).2.2.2.2 A1v4 h7).1 c8).2.2.2.2 A9 q9).2 c10).1 ((((((((((H.2.2.2.2 A1 q1).1 c2).2.2.2.2 A3 q3).1 c4).2.2.2.2 A1v3 h5).1 c6).2.2.2.2 A1v4 h7).1 c8).2.2.2.2 A9 q9).2 c10).2.1 ((((((((((H.2.2.2.2 A1 q1).1 c2).2.2.2.2 A3 q3).1 c4).2.2.2.2 A1v3 h5).1 c6).2.2.2.2 A1v4 h7).1 c8).2.2.2.2 A9 q9).2 c10).2.2.1 ((((((((((H.2.2.2.2 A1 q1).1 c2).2.2.2.2 A3 q3).1 c4).2.2.2.2 A1v3 h5).1 c6).2.2.2.2 A1v4 h7).1 c8).2.2.2.2 A9 q9).2 c10).2.2.2.1 )) (pv_if_eq_zo rfl  (fun c16 => (pn_iconst rfl rfl   (pv_iretz rfl rfl (Or.inl rfl) ((((((((((((H.2.2.2.2 A1 q1).1 c2).2.2.2.2 A3 q3).1 c4).2.2.2.2 A1v3 h5).1 c6).2.2.2.2 A1v4 h7).1 c8).2.2.2.2 A9 q9).2 c10).2.2.2.2 A15 q15).1 c16)))) (fun c16 => (pv_aload_n rfl rfl   (match (r_readSum (A := A15) (X := X) (d := d + 1) (G := G) (j := j) (cc := cc) hp263 ((((((((((((H.2.2.2.2 A1 q1).1 c2).2.2.2.2 A3 q3).1 c4).2.2.2.2 A1v3 h5).1 c6).2.2.2.2 A1v4 h7).1 c8).2.2.2.2 A9 q9).2 c10).2.2.2.2 A15 q15).2 c16).1 ((((((((((((H.2.2.2.2 A1 q1).1 c2).2.2.2.2 A3 q3).1 c4).2.2.2.2 A1v3 h5).1 c6).2.2.2.2 A1v4 h7).1 c8).2.2.2.2 A9 q9).2 c10).2.2.2.2 A15 q15).2 c16).2.1 ((((((((((((H.2.2.2.2 A1 q1).1 c2).2.2.2.2 A3 q3).1 c4).2.2.2.2 A1v3 h5).1 c6).2.2.2.2 A1v4 h7).1 c8).2.2.2.2 A9 q9).2 c10).2.2.2.2 A15 q15).2 c16).2.2.1 ((((((((((((H.2.2.2.2 A1 q1).1 c2).2.2.2.2 A3 q3).1 c4).2.2.2.2 A1v3 h5).1 c6).2.2.2.2 A1v4 h7).1 c8).2.2.2.2 A9 q9).2 c10).2.2.2.2 A15 q15).2 c16).2.2.2.1 ) with | ⟨A1v9, e10x153, h17⟩ => pv_virt rfl rfl rfl rfl rfl (oX12_k hp263) rfl rfl rfl e10x153 (pv_if_ne_zo rfl  (fun c18 => (pv_aload_n rfl rfl   (pv_iload_n rfl rfl   (pv_if_eq_zo rfl (fun _ => (pn_bipush rfl rfl   (pn_iconst rfl rfl   (match (⟨(ry A1v9 (emC (A1v9 264) (A1v9 263 16) 13 0) (A1v9 263 10) (A1v9 263 12) (A1v9 263 16 + 1) (A1v9 263 13)), rfl⟩ : ∃ Z : Nat → Nat → Nat, Z = (ry A1v9 (emC (A1v9 264) (A1v9 263 16) 13 0) (A1v9 263 10) (A1v9 263 12) (A1v9 263 16 + 1) (A1v9 263 13))) with | ⟨A20, q20⟩ => pv_virt rfl rfl rfl rfl rfl (oX12_k hp263) rfl rfl rfl (ev_eqM q20 (r_emits (code := 13) (n := 0) (A := A1v9) hp263 ((((((((((((((H.2.2.2.2 A1 q1).1 c2).2.2.2.2 A3 q3).1 c4).2.2.2.2 A1v3 h5).1 c6).2.2.2.2 A1v4 h7).1 c8).2.2.2.2 A9 q9).2 c10).2.2.2.2 A15 q15).2 c16).2.2.2.2 A1v9 h17).1 c18).1 )) (pn_iconst rfl rfl   (pv_iretz rfl rfl (Or.inr rfl) (((((((((((((((H.2.2.2.2 A1 q1).1 c2).2.2.2.2 A3 q3).1 c4).2.2.2.2 A1v3 h5).1 c6).2.2.2.2 A1v4 h7).1 c8).2.2.2.2 A9 q9).2 c10).2.2.2.2 A15 q15).2 c16).2.2.2.2 A1v9 h17).1 c18).2 A20 q20))))))) (fun c19 => absurd (c19.symm.trans c10) (by decide)))))) (fun c18 => (pn_iconst rfl rfl   (pv_iretz rfl rfl (Or.inl rfl) ((((((((((((((H.2.2.2.2 A1 q1).1 c2).2.2.2.2 A3 q3).1 c4).2.2.2.2 A1v3 h5).1 c6).2.2.2.2 A1v4 h7).1 c8).2.2.2.2 A9 q9).2 c10).2.2.2.2 A15 q15).2 c16).2.2.2.2 A1v9 h17).2 c18)))))))))))))))))))) (fun c8 => (pn_iconst rfl rfl   (pv_iretz rfl rfl (Or.inl rfl) ((((((((H.2.2.2.2 A1 q1).1 c2).2.2.2.2 A3 q3).1 c4).2.2.2.2 A1v3 h5).1 c6).2.2.2.2 A1v4 h7).2 c8)))))))) (fun c6 => (pn_iconst rfl rfl   (pv_iretz rfl rfl (Or.inr rfl) ((((((H.2.2.2.2 A1 q1).1 c2).2.2.2.2 A3 q3).1 c4).2.2.2.2 A1v3 h5).2 c6)))))))) (fun c4 => (pv_aload_n rfl rfl   (pn_getI rfl rfl (oX12_k hp263) rfl   (pn_bipush rfl rfl   (pn_ic_ne rfl ((((H.2.2.2.2 A1 q1).1 c2).2.2.2.2 A3 q3).2 c4).1 (by decide) (fun c21 => (pv_aload_n rfl rfl   (pv_dup rfl rfl   (pn_getI rfl rfl (oX12_k hp263) rfl   (pn_iconst rfl rfl   (pn_iadd rfl   (pn_putI rfl rfl (oX12_k hp263)   (pv_aload_n rfl rfl   (match (hAt (A := (gu A3 263 13 ((A3 263 13) + 1))) (((((H.2.2.2.2 A1 q1).1 c2).2.2.2.2 A3 q3).2 c4).2.1 c21).1 (((((H.2.2.2.2 A1 q1).1 c2).2.2.2.2 A3 q3).2 c4).2.1 c21).2.1 (((((H.2.2.2.2 A1 q1).1 c2).2.2.2.2 A3 q3).2 c4).2.1 c21).2.2.1 (((((H.2.2.2.2 A1 q1).1 c2).2.2.2.2 A3 q3).2 c4).2.1 c21).2.2.2.1 (((((H.2.2.2.2 A1 q1).1 c2).2.2.2.2 A3 q3).2 c4).2.1 c21).2.2.2.2.1 (((((H.2.2.2.2 A1 q1).1 c2).2.2.2.2 A3 q3).2 c4).2.1 c21).2.2.2.2.2.1 (((((H.2.2.2.2 A1 q1).1 c2).2.2.2.2 A3 q3).2 c4).2.1 c21).2.2.2.2.2.2.1 ) with | ⟨A1v11, e12x87, h22⟩ => pv_virt rfl rfl rfl rfl rfl (oX12_k hp263) rfl rfl rfl e12x87 (pv_if_ne_zo rfl  (fun c23 => (pv_aload_n rfl rfl   (pv_dup rfl rfl   (pn_getI rfl rfl (oX12_k hp263) rfl   (pn_iconst rfl rfl   (pn_isub rfl (((((((H.2.2.2.2 A1 q1).1 c2).2.2.2.2 A3 q3).2 c4).2.1 c21).2.2.2.2.2.2.2 A1v11 h22).1 c23).1  (pn_putI rfl rfl (oX12_k hp263)   (pv_aload_n rfl rfl   (pn_bipush rfl rfl   (pn_iconst rfl rfl   (match (⟨(ry (gu A1v11 263 13 ((A1v11 263 13) - 1)) (emC (A1v11 264) ((gu A1v11 263 13 ((A1v11 263 13) - 1)) 263 16) 14 0) ((gu A1v11 263 13 ((A1v11 263 13) - 1)) 263 10) ((gu A1v11 263 13 ((A1v11 263 13) - 1)) 263 12) ((gu A1v11 263 13 ((A1v11 263 13) - 1)) 263 16 + 1) ((gu A1v11 263 13 ((A1v11 263 13) - 1)) 263 13)), rfl⟩ : ∃ Z : Nat → Nat → Nat, Z = (ry (gu A1v11 263 13 ((A1v11 263 13) - 1)) (emC (A1v11 264) ((gu A1v11 263 13 ((A1v11 263 13) - 1)) 263 16) 14 0) ((gu A1v11 263 13 ((A1v11 263 13) - 1)) 263 10) ((gu A1v11 263 13 ((A1v11 263 13) - 1)) 263 12) ((gu A1v11 263 13 ((A1v11 263 13) - 1)) 263 16 + 1) ((gu A1v11 263 13 ((A1v11 263 13) - 1)) 263 13))) with | ⟨A24, q24⟩ => pv_virt rfl rfl rfl rfl rfl (oX12_k hp263) rfl rfl rfl (ev_eqM q24 (r_emits (code := 14) (n := 0) (A := (gu A1v11 263 13 ((A1v11 263 13) - 1))) hp263 (((((((H.2.2.2.2 A1 q1).1 c2).2.2.2.2 A3 q3).2 c4).2.1 c21).2.2.2.2.2.2.2 A1v11 h22).1 c23).2.1 )) (pn_iconst rfl rfl   (pv_iretz rfl rfl (Or.inr rfl) ((((((((H.2.2.2.2 A1 q1).1 c2).2.2.2.2 A3 q3).2 c4).2.1 c21).2.2.2.2.2.2.2 A1v11 h22).1 c23).2.2 A24 q24)))))))))))))) (fun c23 => (pn_iconst rfl rfl   (pv_iretz rfl rfl (Or.inl rfl) (((((((H.2.2.2.2 A1 q1).1 c2).2.2.2.2 A3 q3).2 c4).2.1 c21).2.2.2.2.2.2.2 A1v11 h22).2 c23)))))))))))))) (fun c21 => (pn_iconst rfl rfl   (pv_iretz rfl rfl (Or.inl rfl) (((((H.2.2.2.2 A1 q1).1 c2).2.2.2.2 A3 q3).2 c4).2.2 c21)))))))))))))) (fun c2 => (pv_aload_n rfl rfl   (pn_getI rfl rfl (oX12_k hp263) rfl   (pn_bipush rfl rfl   (pn_ic_ne rfl ((H.2.2.2.2 A1 q1).2 c2).1 (by decide) (fun c25 => (pv_aload_n rfl rfl   (pv_dup rfl rfl   (pn_getI rfl rfl (oX12_k hp263) rfl   (pn_iconst rfl rfl   (pn_iadd rfl   (pn_putI rfl rfl (oX12_k hp263)   (pv_aload_n rfl rfl   (match (hCo (A := (gu A1 263 13 ((A1 263 13) + 1))) (((H.2.2.2.2 A1 q1).2 c2).2.1 c25).1 (((H.2.2.2.2 A1 q1).2 c2).2.1 c25).2.1 (((H.2.2.2.2 A1 q1).2 c2).2.1 c25).2.2.1 (((H.2.2.2.2 A1 q1).2 c2).2.1 c25).2.2.2.1 (((H.2.2.2.2 A1 q1).2 c2).2.1 c25).2.2.2.2.1 (((H.2.2.2.2 A1 q1).2 c2).2.1 c25).2.2.2.2.2.1 (((H.2.2.2.2 A1 q1).2 c2).2.1 c25).2.2.2.2.2.2.1 ) with | ⟨A1v13, e14x31, h26⟩ => pv_virt rfl rfl rfl rfl rfl (oX12_k hp263) rfl rfl rfl e14x31 (pv_if_ne_zo rfl  (fun c27 => (pv_aload_n rfl rfl   (pv_dup rfl rfl   (pn_getI rfl rfl (oX12_k hp263) rfl   (pn_iconst rfl rfl   (pn_isub rfl (((((H.2.2.2.2 A1 q1).2 c2).2.1 c25).2.2.2.2.2.2.2 A1v13 h26).1 c27).1  (pn_putI rfl rfl (oX12_k hp263)   (pv_aload_n rfl rfl   (pn_bipush rfl rfl   (match (⟨(lx (gu A1v13 263 13 ((A1v13 263 13) - 1)) (sgE (A1v13 269) ((gu A1v13 263 13 ((A1v13 263 13) - 1)) 263 11) ((gu A1v13 263 13 ((A1v13 263 13) - 1)) 263 10) 41) (skB (A1v13 269) ((gu A1v13 263 13 ((A1v13 263 13) - 1)) 263 11) ((gu A1v13 263 13 ((A1v13 263 13) - 1)) 263 10))), rfl⟩ : ∃ Z : Nat → Nat → Nat, Z = (lx (gu A1v13 263 13 ((A1v13 263 13) - 1)) (sgE (A1v13 269) ((gu A1v13 263 13 ((A1v13 263 13) - 1)) 263 11) ((gu A1v13 263 13 ((A1v13 263 13) - 1)) 263 10) 41) (skB (A1v13 269) ((gu A1v13 263 13 ((A1v13 263 13) - 1)) 263 11) ((gu A1v13 263 13 ((A1v13 263 13) - 1)) 263 10)))) with | ⟨A28, q28⟩ => pv_virt rfl rfl rfl rfl rfl (oX12_k hp263) rfl rfl rfl (ev_eqM q28 (r_sign (c := 41) (A := (gu A1v13 263 13 ((A1v13 263 13) - 1))) hp263 (((((H.2.2.2.2 A1 q1).2 c2).2.1 c25).2.2.2.2.2.2.2 A1v13 h26).1 c27).2.1 (((((H.2.2.2.2 A1 q1).2 c2).2.1 c25).2.2.2.2.2.2.2 A1v13 h26).1 c27).2.2.1 (((((H.2.2.2.2 A1 q1).2 c2).2.1 c25).2.2.2.2.2.2.2 A1v13 h26).1 c27).2.2.2.1 (((((H.2.2.2.2 A1 q1).2 c2).2.1 c25).2.2.2.2.2.2.2 A1v13 h26).1 c27).2.2.2.2.1 )) (pv_iretz rfl rfl (zo_b _) ((((((H.2.2.2.2 A1 q1).2 c2).2.1 c25).2.2.2.2.2.2.2 A1v13 h26).1 c27).2.2.2.2.2 A28 q28)))))))))))) (fun c27 => (pn_iconst rfl rfl   (pv_iretz rfl rfl (Or.inl rfl) (((((H.2.2.2.2 A1 q1).2 c2).2.1 c25).2.2.2.2.2.2.2 A1v13 h26).2 c27)))))))))))))) (fun c25 => (pn_iconst rfl rfl   (pv_iretz rfl rfl (Or.inl rfl) (((H.2.2.2.2 A1 q1).2 c2).2.2 c25)))))))))))))
theorem ps_i {t : Nat → Nat} {E i q : Nat} (hi : i ≤ E) : psB t E (skB t E i) q = psB t E i q ∧ psE t E (skB t E i) q = psE t E i q := by
  unfold psE psB
  rw [skB_i hi]
  exact ⟨rfl, rfl⟩
theorem sg_i {t : Nat → Nat} {E i c : Nat} (hi : i ≤ E) : sgB t E (skB t E i) c = sgB t E i c ∧ sgE t E (skB t E i) c = sgE t E i c := by
  unfold sgE sgB
  rw [skB_i hi]
  exact ⟨rfl, rfl⟩
theorem r_atom {X : gv_X} {d : Nat} {G : gv_Sh} {A : Nat → Nat → Nat} {j : Nat → Nat → Int64} {cc : gv_Rs} {P : gv_O × gv_S → Prop} {f : Nat} (hp263 : oX12 G 263) (hCo : ∀ {B : Nat → Nat → Nat}, (B 263 11 ≤ 400) → (B 263 10 ≤ B 263 11) → (∀ i, i < 400 → B 269 i < 4294967296) → (B 263 16 + 1 ≤ B 263 10) → (B 263 13 ≤ 6) → (5 * (B 263 11 - B 263 10) + 4 ≤ f) → (B 263 13 = (A 263 13 + 1)) → ∃ B1 : Nat → Nat → Nat, Ev X (d + 5) gvm_240 0 (gv_enter [.ref 263] 1) [] (G, (mI B, j), cc) (.inl (some (.int (zo (pG (B 269) (B 263 11) f 2 (B 263 13) (B 263 10)).1))), (G, (mI B1, j), cc)) ∧ (lwP B B1 (pG (B 269) (B 263 11) f 2 (B 263 13) (B 263 10)))) (hAt : ∀ {B : Nat → Nat → Nat}, (B 263 11 ≤ 400) → (B 263 10 ≤ B 263 11) → (∀ i, i < 400 → B 269 i < 4294967296) → (B 263 16 + 1 ≤ B 263 10) → (B 263 13 ≤ 6) → (5 * (B 263 11 - B 263 10) + 1 ≤ f) → (B 263 13 = (A 263 13 + 1)) → ∃ B1 : Nat → Nat → Nat, Ev X (d + 5) gvm_238 0 (gv_enter [.ref 263] 2) [] (G, (mI B, j), cc) (.inl (some (.int (zo (pG (B 269) (B 263 11) f 0 (B 263 13) (B 263 10)).1))), (G, (mI B1, j), cc)) ∧ (lwP B B1 (pG (B 269) (B 263 11) f 0 (B 263 13) (B 263 10)))) (p0 : A 263 11 ≤ 400) (p1 : A 263 10 ≤ A 263 11) (p2 : ∀ i, i < 400 → A 269 i < 4294967296) (p3 : A 263 16 + 1 ≤ A 263 10) (p4 : A 263 13 ≤ 6) (p5 : 5 * (A 263 11 - A 263 10) + 1 ≤ (f + 1)) (hB0 : ∀ k i, i ≤ A 263 11 → (pG (A 269) (A 263 11) f 0 k i).1 = true → i + (pG (A 269) (A 263 11) f 0 k i).2.1.length ≤ (pG (A 269) (A 263 11) f 0 k i).2.2.1 ∧ (pG (A 269) (A 263 11) f 0 k i).2.2.1 ≤ A 263 11) (hB2 : ∀ k i, i ≤ A 263 11 → (pG (A 269) (A 263 11) f 2 k i).1 = true → i + (pG (A 269) (A 263 11) f 2 k i).2.1.length ≤ (pG (A 269) (A 263 11) f 2 k i).2.2.1 ∧ (pG (A 269) (A 263 11) f 2 k i).2.2.1 ≤ A 263 11) (hP : ∀ A1 : Nat → Nat → Nat, lwP A A1 (pG (A 269) (A 263 11) (f + 1) 0 (A 263 13) (A 263 10)) → P (.inl (some (.int (zo (pG (A 269) (A 263 11) (f + 1) 0 (A 263 13) (A 263 10)).1))), (G, (mI A1, j), cc))) : EvP X (d + 6) gvm_238 0 (gv_enter [.ref 263] 2) [] (G, (mI A, j), cc) P := by
  have b1 := skB_b (t := (A 269)) (E := (A 263 11)) p1
  have g := sgE_b (t := (A 269)) (E := (A 263 11)) (c := 40) p1
  have e0 : (pG (A 269) (A 263 11) (f + 1) 0 (A 263 13) (A 263 10)) = (if sgB (A 269) (A 263 11) (A 263 10) 40 = true then
      (if A 263 13 = 6 then (false, [], 0, skB (A 269) (A 263 11) (A 263 10))
       else if (pG (A 269) (A 263 11) f 2 (A 263 13 + 1) (sgE (A 269) (A 263 11) (A 263 10) 40)).1 = true then (if sgB (A 269) (A 263 11) (pG (A 269) (A 263 11) f 2 (A 263 13 + 1) (sgE (A 269) (A 263 11) (A 263 10) 40)).2.2.1 41 = true then (true, (pG (A 269) (A 263 11) f 2 (A 263 13 + 1) (sgE (A 269) (A 263 11) (A 263 10) 40)).2.1, sgE (A 269) (A 263 11) (pG (A 269) (A 263 11) f 2 (A 263 13 + 1) (sgE (A 269) (A 263 11) (A 263 10) 40)).2.2.1 41, skB (A 269) (A 263 11) (pG (A 269) (A 263 11) f 2 (A 263 13 + 1) (sgE (A 269) (A 263 11) (A 263 10) 40)).2.2.1) else (false, [], 0, skB (A 269) (A 263 11) (pG (A 269) (A 263 11) f 2 (A 263 13 + 1) (sgE (A 269) (A 263 11) (A 263 10) 40)).2.2.1)) else (false, [], 0, (pG (A 269) (A 263 11) f 2 (A 263 13 + 1) (sgE (A 269) (A 263 11) (A 263 10) 40)).2.2.2))
    else if psB (A 269) (A 263 11) (A 263 10) 8 = true then
      (if A 263 13 = 6 then (false, [], 0, skB (A 269) (A 263 11) (A 263 10))
       else if (pG (A 269) (A 263 11) f 0 (A 263 13 + 1) (psE (A 269) (A 263 11) (A 263 10) 8)).1 = true then (true, (pG (A 269) (A 263 11) f 0 (A 263 13 + 1) (psE (A 269) (A 263 11) (A 263 10) 8)).2.1 ++ [(14, 0)], (pG (A 269) (A 263 11) f 0 (A 263 13 + 1) (psE (A 269) (A 263 11) (A 263 10) 8)).2.2) else (false, [], 0, (pG (A 269) (A 263 11) f 0 (A 263 13 + 1) (psE (A 269) (A 263 11) (A 263 10) 8)).2.2.2))
    else if ¬ tgR (A 269) (skB (A 269) (A 263 11) (A 263 10)) (ltE (A 269) (A 263 11) (skB (A 269) (A 263 11) (A 263 10))) = 4294967295 then (true, [(tgR (A 269) (skB (A 269) (A 263 11) (A 263 10)) (ltE (A 269) (A 263 11) (skB (A 269) (A 263 11) (A 263 10))), 0)], ltE (A 269) (A 263 11) (skB (A 269) (A 263 11) (A 263 10)), skB (A 269) (A 263 11) (A 263 10))
    else cmS (A 269) (A 263 11) (A 263 10)) := rfl
  obtain ⟨r, hr⟩ : ∃ r : LwS, (pG (A 269) (A 263 11) (f + 1) 0 (A 263 13) (A 263 10)) = r := ⟨_, rfl⟩
  rw [hr] at hP e0
  have fl : ∀ (B : Nat → Nat → Nat) (b : Nat), r = (false, [], 0, b) → B 263 12 = b → lwF A B → P (.inl (some (.int (nI 0))), (G, (mI B, j), cc)) := by
    intro B b hb h1 h2
    rw [hb] at hP
    exact qz0 (hP B ⟨fun z => (by cases z), fun _ => ⟨h1, h2⟩⟩) rfl
  have fr : ∀ p b n' d' cs, lwF A (ry A (emL (A 264) (A 263 16) cs) p b n' d') := fun p b n' d' cs => lwF_ry (fun i hi => emL_o _ _ _ i (by omega))
  have fr0 : ∀ p b n' d', lwF A (ry A (A 264) p b n' d') := fun p b n' d' => lwF_ry (fun i hi => rfl)
  refine w238 (f := f) (k := A 263 13) hp263 hCo hAt ⟨p0, p1, p2, by omega, fun A1 q1 => ?_⟩
  rw [lx_ry] at q1
  have a10 := congrArg (fun Z => Z 263 10) q1
  have a11 := congrArg (fun Z => Z 263 11) q1
  have a9 := congrArg (fun Z => Z 269) q1
  have a16 := congrArg (fun Z => Z 263 16) q1
  have a13 := congrArg (fun Z => Z 263 13) q1
  have a4 := congrArg (fun Z => Z 264) q1
  simp only [ry_p, ry_11, ry_9, ry_n, ry_d, ry_4] at a10 a11 a9 a16 a13 a4
  refine ⟨fun c2 => ?_, fun c2 => ?_⟩
  · rw [g.2.2.2 c2] at q1 a10
    rw [if_neg (by rw [c2]; decide)] at e0
    have ps := ps_i (t := (A 269)) (E := (A 263 11)) (i := (A 263 10)) (q := 8) p1
    have pe := psE_b (t := (A 269)) (E := (A 263 11)) (i := (A 263 10)) (q := 8) p1
    refine ⟨by omega, by omega, by rw [a9]; exact p2, by omega, fun A3 q3 => ?_⟩
    simp only [a9, a10, a11, ps.1, ps.2] at q3 ⊢
    rw [skB_i p1, q1, ry_lx] at q3
    have b10 := congrArg (fun Z => Z 263 10) q3
    have b11 := congrArg (fun Z => Z 263 11) q3
    have b9 := congrArg (fun Z => Z 269) q3
    have b16 := congrArg (fun Z => Z 263 16) q3
    have b13 := congrArg (fun Z => Z 263 13) q3
    have b4 := congrArg (fun Z => Z 264) q3
    simp only [ry_p, ry_11, ry_9, ry_n, ry_d, ry_4] at b10 b11 b9 b16 b13 b4
    refine ⟨fun c4 => ?_, fun c4 => ?_⟩
    · rw [if_neg (by rw [c4]; decide)] at e0
      have pz : psE (A 269) (A 263 11) (A 263 10) 8 = (skB (A 269) (A 263 11) (A 263 10)) := by unfold psE; rw [if_neg (by rw [c4]; decide)]
      rw [pz] at q3 b10
      refine ⟨by omega, by omega, by rw [b9]; exact p2, by omega, fun A4 h5 => ?_⟩
      simp only [b9, b10, b11, b16, b13, b4, skB_i p1] at h5 ⊢
      refine ⟨fun c6 => ?_, fun c6 => ?_⟩
      · have hT := Decidable.not_not.mp c6
        have q5 := h5.1 hT
        rw [q3, ry_ry] at q5
        have x10 := congrArg (fun Z => Z 263 10) q5
        have x11 := congrArg (fun Z => Z 263 11) q5
        have x9 := congrArg (fun Z => Z 269) q5
        have x16 := congrArg (fun Z => Z 263 16) q5
        have x13 := congrArg (fun Z => Z 263 13) q5
        have x4 := congrArg (fun Z => Z 264) q5
        simp only [ry_p, ry_11, ry_9, ry_n, ry_d, ry_4] at x10 x11 x9 x16 x13 x4
        rw [if_neg c6] at e0
        unfold cmS at e0
        refine ⟨by omega, by omega, by rw [x9]; exact p2, by omega, fun A5 h7 => ?_⟩
        simp only [x9, x10, x11] at h7 ⊢
        refine ⟨fun c8 => ?_, fun c8 => ?_⟩
        · rw [if_pos c8] at e0
          have s1 := suS_b b1.2 c8
          have k1 := skB_b (t := (A 269)) (E := (A 263 11)) s1.2
          have g6 := sgE_b (t := (A 269)) (E := (A 263 11)) (c := 60) s1.2
          have g7 := sgE_b (t := (A 269)) (E := (A 263 11)) (c := 62) s1.2
          have q7 := h7.1 c8
          rw [x4, x16, x13, q5, ry_ry] at q7
          have d10 := congrArg (fun Z => Z 263 10) q7
          have d11 := congrArg (fun Z => Z 263 11) q7
          have d9 := congrArg (fun Z => Z 269) q7
          have d16 := congrArg (fun Z => Z 263 16) q7
          have d13 := congrArg (fun Z => Z 263 13) q7
          have d4 := congrArg (fun Z => Z 264) q7
          simp only [ry_p, ry_11, ry_9, ry_n, ry_d, ry_4] at d10 d11 d9 d16 d13 d4
          refine ⟨by omega, by omega, by rw [d9]; exact p2, by omega, fun A6 q9 => ?_⟩
          simp only [d9, d10, d11] at q9 ⊢
          rw [q7, ry_lx] at q9
          have e10 := congrArg (fun Z => Z 263 10) q9
          have e11 := congrArg (fun Z => Z 263 11) q9
          have e9 := congrArg (fun Z => Z 269) q9
          have e16 := congrArg (fun Z => Z 263 16) q9
          have e13 := congrArg (fun Z => Z 263 13) q9
          have e4 := congrArg (fun Z => Z 264) q9
          simp only [ry_p, ry_11, ry_9, ry_n, ry_d, ry_4] at e10 e11 e9 e16 e13 e4
          refine ⟨fun c10 => ?_, fun c10 => ?_⟩
          · rw [if_pos c10] at e0
            have gt := g6.2.2.1 c10
            refine ⟨by omega, by omega, by rw [e9]; exact p2, by omega, fun A7 h11 => ?_⟩
            simp only [e9, e10, e11] at h11 ⊢
            refine ⟨fun c12 => ?_, fun c12 => ?_⟩
            · rw [if_pos c12] at e0
              have s2 := suS_b g6.2.1 c12
              have q11 := h11.1 c12
              rw [e4, e16, e13, q9, ry_ry, ← emL_app, Nat.add_assoc, ← List.length_append] at q11
              have u10 := congrArg (fun Z => Z 263 10) q11
              have u11 := congrArg (fun Z => Z 263 11) q11
              have u9 := congrArg (fun Z => Z 269) q11
              have u16 := congrArg (fun Z => Z 263 16) q11
              have u13 := congrArg (fun Z => Z 263 13) q11
              have u4 := congrArg (fun Z => Z 264) q11
              simp only [ry_p, ry_11, ry_9, ry_n, ry_d, ry_4] at u10 u11 u9 u16 u13 u4
              have ll : ((suS (A 269) (A 263 11) (skB (A 269) (A 263 11) (A 263 10))).2.1 ++ (suS (A 269) (A 263 11) (sgE (A 269) (A 263 11) (suS (A 269) (A 263 11) (skB (A 269) (A 263 11) (A 263 10))).2.2.1 60)).2.1).length = (suS (A 269) (A 263 11) (skB (A 269) (A 263 11) (A 263 10))).2.1.length + (suS (A 269) (A 263 11) (sgE (A 269) (A 263 11) (suS (A 269) (A 263 11) (skB (A 269) (A 263 11) (A 263 10))).2.2.1 60)).2.1.length := List.length_append
              refine ⟨by omega, fun A8 q14 => ?_⟩
              rw [e0] at hP
              refine qz1 (hP A8 ⟨fun _ => ?_, fun z => (by cases z)⟩) rfl
              rw [q11] at q14
              simp only [ry_4, ry_p, ry_b, ry_n, ry_d, ry_ry] at q14
              rw [q14]
              show _ = ry A (emL (A 264) (A 263 16) ((suS (A 269) (A 263 11) (skB (A 269) (A 263 11) (A 263 10))).2.1 ++ ((suS (A 269) (A 263 11) (sgE (A 269) (A 263 11) (suS (A 269) (A 263 11) (skB (A 269) (A 263 11) (A 263 10))).2.2.1 60)).2.1 ++ [(12, 0)]))) (suS (A 269) (A 263 11) (sgE (A 269) (A 263 11) (suS (A 269) (A 263 11) (skB (A 269) (A 263 11) (A 263 10))).2.2.1 60)).2.2.1 (suS (A 269) (A 263 11) (sgE (A 269) (A 263 11) (suS (A 269) (A 263 11) (skB (A 269) (A 263 11) (A 263 10))).2.2.1 60)).2.2.2 ((A 263 16) + ((suS (A 269) (A 263 11) (skB (A 269) (A 263 11) (A 263 10))).2.1 ++ ((suS (A 269) (A 263 11) (sgE (A 269) (A 263 11) (suS (A 269) (A 263 11) (skB (A 269) (A 263 11) (A 263 10))).2.2.1 60)).2.1 ++ [(12, 0)])).length) (A 263 13)
              rw [← List.append_assoc, emL_app ((suS (A 269) (A 263 11) (skB (A 269) (A 263 11) (A 263 10))).2.1 ++ (suS (A 269) (A 263 11) (sgE (A 269) (A 263 11) (suS (A 269) (A 263 11) (skB (A 269) (A 263 11) (A 263 10))).2.2.1 60)).2.1) [(12, 0)], List.length_append (bs := [(12, 0)])]
              rfl
            · rw [if_neg (by rw [c12]; decide)] at e0
              have q := h11.2 c12
              refine fl A7 _ e0 q.1 (lwF_tr ?_ q.2)
              rw [q9]
              exact fr _ _ _ _ _
          · rw [if_neg (by rw [c10]; decide)] at e0
            have gz := g6.2.2.2 c10
            have si := sg_i (t := (A 269)) (E := (A 263 11)) (i := (suS (A 269) (A 263 11) (skB (A 269) (A 263 11) (A 263 10))).2.2.1) (c := 62) s1.2
            rw [gz] at q9 e10
            refine ⟨by omega, by omega, by rw [e9]; exact p2, by omega, fun A7 q15 => ?_⟩
            simp only [e9, e10, e11, si.1, si.2, skB_i s1.2] at q15 ⊢
            rw [q9, ry_lx] at q15
            have f10 := congrArg (fun Z => Z 263 10) q15
            have f11 := congrArg (fun Z => Z 263 11) q15
            have f9 := congrArg (fun Z => Z 269) q15
            have f16 := congrArg (fun Z => Z 263 16) q15
            have f13 := congrArg (fun Z => Z 263 13) q15
            have f4 := congrArg (fun Z => Z 264) q15
            simp only [ry_p, ry_11, ry_9, ry_n, ry_d, ry_4] at f10 f11 f9 f16 f13 f4
            refine ⟨fun c16 => ?_, fun c16 => ?_⟩
            · rw [if_neg (by rw [c16]; decide)] at e0
              refine fl A7 _ e0 ?_ ?_
              · rw [q15, ry_b]
              · rw [q15]; exact fr _ _ _ _ _
            · rw [if_pos c16] at e0
              have gt := g7.2.2.1 c16
              refine ⟨by omega, by omega, by rw [f9]; exact p2, by omega, fun A8 h17 => ?_⟩
              simp only [f9, f10, f11] at h17 ⊢
              refine ⟨fun c18 => ?_, fun c18 => ?_⟩
              · rw [if_pos c18] at e0
                have s2 := suS_b g7.2.1 c18
                have q17 := h17.1 c18
                rw [f4, f16, f13, q15, ry_ry, ← emL_app, Nat.add_assoc, ← List.length_append] at q17
                have u10 := congrArg (fun Z => Z 263 10) q17
                have u11 := congrArg (fun Z => Z 263 11) q17
                have u9 := congrArg (fun Z => Z 269) q17
                have u16 := congrArg (fun Z => Z 263 16) q17
                have u13 := congrArg (fun Z => Z 263 13) q17
                have u4 := congrArg (fun Z => Z 264) q17
                simp only [ry_p, ry_11, ry_9, ry_n, ry_d, ry_4] at u10 u11 u9 u16 u13 u4
                have ll : ((suS (A 269) (A 263 11) (skB (A 269) (A 263 11) (A 263 10))).2.1 ++ (suS (A 269) (A 263 11) (sgE (A 269) (A 263 11) (suS (A 269) (A 263 11) (skB (A 269) (A 263 11) (A 263 10))).2.2.1 62)).2.1).length = (suS (A 269) (A 263 11) (skB (A 269) (A 263 11) (A 263 10))).2.1.length + (suS (A 269) (A 263 11) (sgE (A 269) (A 263 11) (suS (A 269) (A 263 11) (skB (A 269) (A 263 11) (A 263 10))).2.2.1 62)).2.1.length := List.length_append
                refine ⟨by omega, fun A9 q20 => ?_⟩
                rw [e0] at hP
                refine qz1 (hP A9 ⟨fun _ => ?_, fun z => (by cases z)⟩) rfl
                rw [q17] at q20
                simp only [ry_4, ry_p, ry_b, ry_n, ry_d, ry_ry] at q20
                rw [q20]
                show _ = ry A (emL (A 264) (A 263 16) ((suS (A 269) (A 263 11) (skB (A 269) (A 263 11) (A 263 10))).2.1 ++ ((suS (A 269) (A 263 11) (sgE (A 269) (A 263 11) (suS (A 269) (A 263 11) (skB (A 269) (A 263 11) (A 263 10))).2.2.1 62)).2.1 ++ [(13, 0)]))) (suS (A 269) (A 263 11) (sgE (A 269) (A 263 11) (suS (A 269) (A 263 11) (skB (A 269) (A 263 11) (A 263 10))).2.2.1 62)).2.2.1 (suS (A 269) (A 263 11) (sgE (A 269) (A 263 11) (suS (A 269) (A 263 11) (skB (A 269) (A 263 11) (A 263 10))).2.2.1 62)).2.2.2 ((A 263 16) + ((suS (A 269) (A 263 11) (skB (A 269) (A 263 11) (A 263 10))).2.1 ++ ((suS (A 269) (A 263 11) (sgE (A 269) (A 263 11) (suS (A 269) (A 263 11) (skB (A 269) (A 263 11) (A 263 10))).2.2.1 62)).2.1 ++ [(13, 0)])).length) (A 263 13)
                rw [← List.append_assoc, emL_app ((suS (A 269) (A 263 11) (skB (A 269) (A 263 11) (A 263 10))).2.1 ++ (suS (A 269) (A 263 11) (sgE (A 269) (A 263 11) (suS (A 269) (A 263 11) (skB (A 269) (A 263 11) (A 263 10))).2.2.1 62)).2.1) [(13, 0)], List.length_append (bs := [(13, 0)])]
                rfl
              · rw [if_neg (by rw [c18]; decide)] at e0
                have q := h17.2 c18
                refine fl A8 _ e0 q.1 (lwF_tr ?_ q.2)
                rw [q15]
                exact fr _ _ _ _ _
        · rw [if_neg (by rw [c8]; decide)] at e0
          have q := h7.2 c8
          refine fl A5 _ e0 q.1 (lwF_tr ?_ q.2)
          rw [q5]
          exact fr0 _ _ _ _
      · have q5 := h5.2 c6
        rw [q3, ry_ry] at q5
        rw [if_pos c6] at e0
        rw [e0] at hP
        exact qz1 (hP A4 ⟨fun _ => q5, fun z => (by cases z)⟩) rfl
    · rw [if_pos c4] at e0
      have pw := psE_w p1 c4
      have w8 := wl_7.2.2
      refine ⟨by omega, fun c21 => ?_, fun c21 => ?_⟩
      · rw [b13] at c21
        rw [if_neg c21] at e0
        have hM : gu A3 263 13 (A 263 13 + 1) = ry A (A 264) (psE (A 269) (A 263 11) (A 263 10) 8) (skB (A 269) (A 263 11) (A 263 10)) (A 263 16) (A 263 13 + 1) := by rw [q3, ry_13]
        simp only [b9, b10, b11, b16, b13, hM, ry_p, ry_11, ry_9, ry_n, ry_d, ry_4]
        refine ⟨by omega, by omega, p2, by omega, by omega, by omega, trivial, fun A5 h22 => ?_⟩
        refine ⟨fun c23 => ?_, fun c23 => ?_⟩
        · rw [if_pos c23] at e0
          have q := h22.1 c23
          simp only [ry_4, ry_n, ry_d, ry_ry] at q
          have d10 := congrArg (fun Z => Z 263 10) q
          have d11 := congrArg (fun Z => Z 263 11) q
          have d9 := congrArg (fun Z => Z 269) q
          have d16 := congrArg (fun Z => Z 263 16) q
          have d13 := congrArg (fun Z => Z 263 13) q
          have d4 := congrArg (fun Z => Z 264) q
          simp only [ry_p, ry_11, ry_9, ry_n, ry_d, ry_4] at d10 d11 d9 d16 d13 d4
          have bd := hB0 _ _ pw.2 c23
          have hM2 : gu A5 263 13 (A 263 13) = ry A (emL (A 264) (A 263 16) (pG (A 269) (A 263 11) f 0 (A 263 13 + 1) (psE (A 269) (A 263 11) (A 263 10) 8)).2.1) (pG (A 269) (A 263 11) f 0 (A 263 13 + 1) (psE (A 269) (A 263 11) (A 263 10) 8)).2.2.1 (pG (A 269) (A 263 11) f 0 (A 263 13 + 1) (psE (A 269) (A 263 11) (A 263 10) 8)).2.2.2 ((A 263 16) + (pG (A 269) (A 263 11) f 0 (A 263 13 + 1) (psE (A 269) (A 263 11) (A 263 10) 8)).2.1.length) (A 263 13) := by rw [q, ry_13]
          simp only [d13, Nat.add_sub_cancel, hM2, ry_p, ry_b, ry_n, ry_d, ry_4, d16, d4]
          refine ⟨by omega, by omega, fun A6 q24 => ?_⟩
          simp only [ry_ry] at q24
          rw [e0] at hP
          refine qz1 (hP A6 ⟨fun _ => ?_, fun z => (by cases z)⟩) rfl
          rw [q24]
          show _ = ry A (emL (A 264) (A 263 16) ((pG (A 269) (A 263 11) f 0 (A 263 13 + 1) (psE (A 269) (A 263 11) (A 263 10) 8)).2.1 ++ [(14, 0)])) (pG (A 269) (A 263 11) f 0 (A 263 13 + 1) (psE (A 269) (A 263 11) (A 263 10) 8)).2.2.1 (pG (A 269) (A 263 11) f 0 (A 263 13 + 1) (psE (A 269) (A 263 11) (A 263 10) 8)).2.2.2 ((A 263 16) + ((pG (A 269) (A 263 11) f 0 (A 263 13 + 1) (psE (A 269) (A 263 11) (A 263 10) 8)).2.1 ++ [(14, 0)]).length) (A 263 13)
          rw [emL_app, List.length_append]
          rfl
        · rw [if_neg (by rw [c23]; decide)] at e0
          have q := h22.2 c23
          exact fl A5 _ e0 q.1 (lwF_tr (fr0 _ _ _ _) q.2)
      · rw [b13] at c21
        rw [if_pos c21] at e0
        refine fl A3 _ e0 ?_ ?_
        · rw [q3, ry_b]
        · rw [q3]; exact fr0 _ _ _ _
  · rw [if_pos c2] at e0
    have g3 := g.2.2.1 c2
    refine ⟨by omega, fun c25 => ?_, fun c25 => ?_⟩
    · rw [a13] at c25
      rw [if_neg c25] at e0
      have hM : gu A1 263 13 (A 263 13 + 1) = ry A (A 264) (sgE (A 269) (A 263 11) (A 263 10) 40) (skB (A 269) (A 263 11) (A 263 10)) (A 263 16) (A 263 13 + 1) := by rw [q1, ry_13]
      simp only [a9, a10, a11, a16, a13, hM, ry_p, ry_11, ry_9, ry_n, ry_d, ry_4]
      refine ⟨by omega, by omega, p2, by omega, by omega, by omega, trivial, fun A5 h26 => ?_⟩
      refine ⟨fun c27 => ?_, fun c27 => ?_⟩
      · rw [if_pos c27] at e0
        have q := h26.1 c27
        simp only [ry_4, ry_n, ry_d, ry_ry] at q
        have d10 := congrArg (fun Z => Z 263 10) q
        have d11 := congrArg (fun Z => Z 263 11) q
        have d9 := congrArg (fun Z => Z 269) q
        have d16 := congrArg (fun Z => Z 263 16) q
        have d13 := congrArg (fun Z => Z 263 13) q
        have d4 := congrArg (fun Z => Z 264) q
        simp only [ry_p, ry_11, ry_9, ry_n, ry_d, ry_4] at d10 d11 d9 d16 d13 d4
        have bd := hB2 _ _ g.2.1 c27
        have hM2 : gu A5 263 13 (A 263 13) = ry A (emL (A 264) (A 263 16) (pG (A 269) (A 263 11) f 2 (A 263 13 + 1) (sgE (A 269) (A 263 11) (A 263 10) 40)).2.1) (pG (A 269) (A 263 11) f 2 (A 263 13 + 1) (sgE (A 269) (A 263 11) (A 263 10) 40)).2.2.1 (pG (A 269) (A 263 11) f 2 (A 263 13 + 1) (sgE (A 269) (A 263 11) (A 263 10) 40)).2.2.2 ((A 263 16) + (pG (A 269) (A 263 11) f 2 (A 263 13 + 1) (sgE (A 269) (A 263 11) (A 263 10) 40)).2.1.length) (A 263 13) := by rw [q, ry_13]
        simp only [d13, Nat.add_sub_cancel, hM2, ry_p, ry_b, ry_11, ry_9, ry_n, ry_d, ry_4, d9]
        refine ⟨by omega, by omega, by omega, p2, by omega, fun A6 q28 => ?_⟩
        rw [ry_lx] at q28
        have gg := sgE_b (t := (A 269)) (E := (A 263 11)) (c := 41) bd.2
        by_cases e41 : sgB (A 269) (A 263 11) (pG (A 269) (A 263 11) f 2 (A 263 13 + 1) (sgE (A 269) (A 263 11) (A 263 10) 40)).2.2.1 41 = true
        · rw [if_pos e41] at e0
          rw [e0] at hP
          exact qzz (hP A6 ⟨fun _ => q28, fun z => (by cases z)⟩) e41.symm
        · have e41 : sgB (A 269) (A 263 11) (pG (A 269) (A 263 11) f 2 (A 263 13 + 1) (sgE (A 269) (A 263 11) (A 263 10) 40)).2.2.1 41 = false := by simpa using e41
          rw [if_neg (by rw [e41]; decide)] at e0
          rw [e0] at hP
          refine qzz (hP A6 ⟨fun z => (by cases z), fun _ => ⟨?_, ?_⟩⟩) e41.symm
          · rw [q28, ry_b]
          · rw [q28]; exact fr _ _ _ _ _
      · rw [if_neg (by rw [c27]; decide)] at e0
        have q := h26.2 c27
        exact fl A5 _ e0 q.1 (lwF_tr (fr0 _ _ _ _) q.2)
    · rw [a13] at c25
      rw [if_pos c25] at e0
      refine fl A1 _ e0 ?_ ?_
      · rw [q1, ry_b]
      · rw [q1]; exact fr0 _ _ _ _
