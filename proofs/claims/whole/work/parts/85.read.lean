/-! conditions of the law, all -/
theorem pG_b {t : Nat → Nat} {E : Nat} : ∀ (f m k i : Nat), i ≤ E → (pG t E f m k i).1 = true → i + (pG t E f m k i).2.1.length ≤ (pG t E f m k i).2.2.1 ∧ (pG t E f m k i).2.2.1 ≤ E := by
  intro f
  induction f with
  | zero => intro m k i hi _; exact ⟨Nat.le_refl _, hi⟩
  | succ f ih =>
    intro m k i hi h
    have b := skB_b (t := t) hi
    unfold pG at h ⊢
    rcases (by omega : m = 0 ∨ m = 1 ∨ m = 2 ∨ m = 3 ∨ 3 < m) with rfl | rfl | rfl | rfl | hm
    · rw [if_pos rfl] at h ⊢
      have g := sgE_b (t := t) (c := 40) hi
      by_cases e : sgB t E i 40 = true
      · rw [if_pos e] at h ⊢
        by_cases e6 : k = 6
        · rw [if_pos e6] at h; cases h
        · rw [if_neg e6] at h ⊢
          by_cases e2 : (pG t E f 2 (k + 1) (sgE t E i 40)).1 = true
          · rw [if_pos e2] at h ⊢
            have a := ih 2 (k + 1) _ g.2.1 e2
            have g2 := sgE_b (t := t) (c := 41) a.2
            by_cases e3 : sgB t E (pG t E f 2 (k + 1) (sgE t E i 40)).2.2.1 41 = true
            · rw [if_pos e3] at h ⊢
              have := skB_b (t := t) a.2
              have := g2.2.2.1 e3
              refine ⟨?_, g2.2.1⟩
              show i + (pG t E f 2 (k + 1) (sgE t E i 40)).2.1.length ≤ sgE t E (pG t E f 2 (k + 1) (sgE t E i 40)).2.2.1 41
              omega
            · rw [if_neg e3] at h; cases h
          · rw [if_neg e2] at h; cases h
      · rw [if_neg e] at h ⊢
        by_cases en : psB t E i 8 = true
        · rw [if_pos en] at h ⊢
          by_cases e6 : k = 6
          · rw [if_pos e6] at h; cases h
          · rw [if_neg e6] at h ⊢
            have pw := psE_w hi en
            have w7 := wl_7
            by_cases e2 : (pG t E f 0 (k + 1) (psE t E i 8)).1 = true
            · rw [if_pos e2] at h ⊢
              have a := ih 0 (k + 1) _ pw.2 e2
              refine ⟨?_, a.2⟩
              show i + ((pG t E f 0 (k + 1) (psE t E i 8)).2.1 ++ [(14, 0)]).length ≤ (pG t E f 0 (k + 1) (psE t E i 8)).2.2.1
              rw [List.length_append]
              show i + ((pG t E f 0 (k + 1) (psE t E i 8)).2.1.length + 1) ≤ _
              omega
            · rw [if_neg e2] at h; cases h
        · rw [if_neg en] at h ⊢
          by_cases et : ¬ tgR t (skB t E i) (ltE t E (skB t E i)) = 4294967295
          · rw [if_pos et] at h ⊢
            have l := ltE_b (t := t) b.2
            refine ⟨?_, l.2⟩
            show i + 1 ≤ ltE t E (skB t E i)
            have wq : ¬ wl 2 = 0 ∧ ¬ wl 36 = 0 ∧ ¬ wl 37 = 0 := by decide +kernel
            have : ∀ q, mt t (skB t E i) (ltE t E (skB t E i)) q = true → ¬ wl q = 0 → skB t E i < ltE t E (skB t E i) := fun q hq hw => by
              unfold mt at hq
              rw [Bool.and_eq_true] at hq
              have := of_decide_eq_true hq.1
              omega
            have hlt : skB t E i < ltE t E (skB t E i) := by
              unfold tgR at et
              by_cases m2 : mt t (skB t E i) (ltE t E (skB t E i)) 2 = true
              · exact this 2 m2 wq.1
              · by_cases m3 : mt t (skB t E i) (ltE t E (skB t E i)) 36 = true
                · exact this 36 m3 wq.2.1
                · by_cases m4 : mt t (skB t E i) (ltE t E (skB t E i)) 37 = true
                  · exact this 37 m4 wq.2.2
                  · rw [if_neg m2, if_neg m3, if_neg m4] at et
                    exact absurd rfl et
            omega
          · rw [if_neg et] at h ⊢
            exact cmS_b hi h
    · rw [if_neg (by decide), if_pos rfl] at h ⊢
      by_cases e : (pG t E f 0 k i).1 = true
      · rw [if_pos e] at h ⊢
        have a := ih 0 k i hi e
        have s := ih 3 k _ a.2 h
        refine ⟨?_, s.2⟩
        show i + ((pG t E f 0 k i).2.1 ++ (pG t E f 3 k (pG t E f 0 k i).2.2.1).2.1).length ≤ (pG t E f 3 k (pG t E f 0 k i).2.2.1).2.2.1
        rw [List.length_append]
        omega
      · rw [if_neg e] at h; cases h
    · rw [if_neg (by decide), if_neg (by decide), if_pos rfl] at h ⊢
      by_cases e : (pG t E f 1 k i).1 = true
      · rw [if_pos e] at h ⊢
        have a := ih 1 k i hi e
        have s := ih 4 k _ a.2 h
        refine ⟨?_, s.2⟩
        show i + ((pG t E f 1 k i).2.1 ++ (pG t E f 4 k (pG t E f 1 k i).2.2.1).2.1).length ≤ (pG t E f 4 k (pG t E f 1 k i).2.2.1).2.2.1
        rw [List.length_append]
        omega
      · rw [if_neg e] at h; cases h
    · rw [if_neg (by decide), if_neg (by decide), if_neg (by decide), if_pos rfl] at h ⊢
      by_cases e : psB t E i 7 = true
      · rw [if_pos e] at h ⊢
        have pw := psE_w hi e
        have w7 := wl_7
        by_cases e2 : (pG t E f 0 k (psE t E i 7)).1 = true
        · rw [if_pos e2] at h ⊢
          have a := ih 0 k _ pw.2 e2
          have s := ih 3 k _ a.2 h
          refine ⟨?_, s.2⟩
          show i + ((pG t E f 0 k (psE t E i 7)).2.1 ++ ([(15, 0)] ++ (pG t E f 3 k (pG t E f 0 k (psE t E i 7)).2.2.1).2.1)).length ≤ (pG t E f 3 k (pG t E f 0 k (psE t E i 7)).2.2.1).2.2.1
          rw [List.length_append, List.length_append]
          show i + ((pG t E f 0 k (psE t E i 7)).2.1.length + (1 + (pG t E f 3 k (pG t E f 0 k (psE t E i 7)).2.2.1).2.1.length)) ≤ _
          omega
        · rw [if_neg e2] at h; cases h
      · rw [if_neg e] at h ⊢
        exact ⟨b.1, b.2⟩
    · rw [if_neg (by omega), if_neg (by omega), if_neg (by omega), if_neg (by omega)] at h ⊢
      by_cases e : psB t E i 6 = true
      · rw [if_pos e] at h ⊢
        have pw := psE_w hi e
        have w7 := wl_7
        by_cases e2 : (pG t E f 1 k (psE t E i 6)).1 = true
        · rw [if_pos e2] at h ⊢
          have a := ih 1 k _ pw.2 e2
          have s := ih 4 k _ a.2 h
          refine ⟨?_, s.2⟩
          show i + ((pG t E f 1 k (psE t E i 6)).2.1 ++ ([(16, 0)] ++ (pG t E f 4 k (pG t E f 1 k (psE t E i 6)).2.2.1).2.1)).length ≤ (pG t E f 4 k (pG t E f 1 k (psE t E i 6)).2.2.1).2.2.1
          rw [List.length_append, List.length_append]
          show i + ((pG t E f 1 k (psE t E i 6)).2.1.length + (1 + (pG t E f 4 k (pG t E f 1 k (psE t E i 6)).2.2.1).2.1.length)) ≤ _
          omega
        · rw [if_neg e2] at h; cases h
      · rw [if_neg e] at h ⊢
        exact ⟨b.1, b.2⟩
theorem w239 {X : gv_X} {d : Nat} {G : gv_Sh} {A : Nat → Nat → Nat} {j : Nat → Nat → Int64} {cc : gv_Rs} {P : gv_O × gv_S → Prop}  (hp263 : oX12 G 263) {f k : Nat} (hS : ∀ {A : Nat → Nat → Nat}, (A 263 11 ≤ 400) → (A 263 10 ≤ A 263 11) → (∀ i, i < 400 → A 269 i < 4294967296) → (A 263 16 + 1 ≤ A 263 10) → (A 263 13 ≤ 6) → (5 * (A 263 11 - A 263 10) + 1 ≤ f) → (A 263 13 = k) → ∃ A1 : Nat → Nat → Nat, Ev X (d + 6) gvm_238 0 (gv_enter [.ref 263] 2) [] (G, (mI A, j), cc) (.inl (some (.int (zo (pG (A 269) (A 263 11) f 0 (A 263 13) (A 263 10)).1))), (G, (mI A1, j), cc)) ∧ (lwP A A1 (pG (A 269) (A 263 11) f 0 (A 263 13) (A 263 10)))) (H : (A 263 11 ≤ 400) ∧ ((A 263 10 ≤ A 263 11) ∧ ((∀ i, i < 400 → A 269 i < 4294967296) ∧ ((A 263 16 + 1 ≤ A 263 10) ∧ ((A 263 13 ≤ 6) ∧ ((5 * (A 263 11 - A 263 10) + 1 ≤ f) ∧ ((A 263 13 = k) ∧ ((∀ A1v1 : Nat → Nat → Nat, ((lwP A A1v1 (pG (A 269) (A 263 11) f 0 (A 263 13) (A 263 10)))) → (((pG (A 269) (A 263 11) f 0 (A 263 13) (A 263 10)).1 = true) → EvP X (d + 7) gvm_239 9 [some (.ref 263)] [] (G, (mI A1v1, j), cc) P) ∧ (((pG (A 269) (A 263 11) f 0 (A 263 13) (A 263 10)).1 = false) → P (.inl (some (.int (nI 0))), (G, (mI A1v1, j), cc)))))))))))) : EvP X (d + 7) gvm_239 0 (gv_enter [.ref 263] 1) [] (G, (mI A, j), cc) P :=
  (pv_aload_n rfl rfl   (match (hS (A := A) H.1 H.2.1 H.2.2.1 H.2.2.2.1 H.2.2.2.2.1 H.2.2.2.2.2.1 H.2.2.2.2.2.2.1 ) with | ⟨A1v1, e1x1, h1⟩ => pv_virt rfl rfl rfl rfl rfl (oX12_k hp263) rfl rfl rfl e1x1 (pv_if_ne_zo rfl  (fun c2 => ((H.2.2.2.2.2.2.2 A1v1 h1).1 c2)) (fun c2 => (pn_iconst rfl rfl   (pv_iretz rfl rfl (Or.inl rfl) ((H.2.2.2.2.2.2.2 A1v1 h1).2 c2)))))))
theorem w239_9 {X : gv_X} {d : Nat} {G : gv_Sh} {A : Nat → Nat → Nat} {j : Nat → Nat → Int64} {cc : gv_Rs} {P : gv_O × gv_S → Prop}  (hp263 : oX12 G 263) {f k : Nat} (hS : ∀ {A : Nat → Nat → Nat}, (A 263 11 ≤ 400) → (A 263 10 ≤ A 263 11) → (∀ i, i < 400 → A 269 i < 4294967296) → (A 263 16 + 1 ≤ A 263 10) → (A 263 13 ≤ 6) → (5 * (A 263 11 - A 263 10) + 1 ≤ f) → (A 263 13 = k) → ∃ A1 : Nat → Nat → Nat, Ev X (d + 6) gvm_238 0 (gv_enter [.ref 263] 2) [] (G, (mI A, j), cc) (.inl (some (.int (zo (pG (A 269) (A 263 11) f 0 (A 263 13) (A 263 10)).1))), (G, (mI A1, j), cc)) ∧ (lwP A A1 (pG (A 269) (A 263 11) f 0 (A 263 13) (A 263 10)))) (H : (A 263 11 ≤ 400) ∧ ((A 263 10 ≤ A 263 11) ∧ ((∀ i, i < 400 → A 269 i < 4294967296) ∧ ((1 ≤ 7 ∧ 7 < 40) ∧ ((∀ A1 : Nat → Nat → Nat, A1 = (lx A (psE (A 269) (A 263 11) (A 263 10) 7) (skB (A 269) (A 263 11) (A 263 10))) → (((psB (A 269) (A 263 11) (A 263 10) 7) = false) → P (.inl (some (.int (nI 1))), (G, (mI A1, j), cc))) ∧ (((psB (A 269) (A 263 11) (A 263 10) 7) = true) → (A1 263 11 ≤ 400) ∧ ((A1 263 10 ≤ A1 263 11) ∧ ((∀ i, i < 400 → A1 269 i < 4294967296) ∧ ((A1 263 16 + 1 ≤ A1 263 10) ∧ ((A1 263 13 ≤ 6) ∧ ((5 * (A1 263 11 - A1 263 10) + 1 ≤ f) ∧ ((A1 263 13 = k) ∧ ((∀ A1v2 : Nat → Nat → Nat, ((lwP A1 A1v2 (pG (A1 269) (A1 263 11) f 0 (A1 263 13) (A1 263 10)))) → (((pG (A1 269) (A1 263 11) f 0 (A1 263 13) (A1 263 10)).1 = true) → (A1v2 263 16 ≤ 399) ∧ ((∀ A5 : Nat → Nat → Nat, A5 = (ry A1v2 (emC (A1v2 264) (A1v2 263 16) 15 0) (A1v2 263 10) (A1v2 263 12) (A1v2 263 16 + 1) (A1v2 263 13)) → EvP X (d + 7) gvm_239 9 [some (.ref 263)] [] (G, (mI A5, j), cc) P))) ∧ (((pG (A1 269) (A1 263 11) f 0 (A1 263 13) (A1 263 10)).1 = false) → P (.inl (some (.int (nI 0))), (G, (mI A1v2, j), cc)))))))))))))))))) : EvP X (d + 7) gvm_239 9 [some (.ref 263)] [] (G, (mI A, j), cc) P :=
  (pv_aload_n rfl rfl   (pv_ldcS rfl   (match (⟨(lx A (psE (A 269) (A 263 11) (A 263 10) 7) (skB (A 269) (A 263 11) (A 263 10))), rfl⟩ : ∃ Z : Nat → Nat → Nat, Z = (lx A (psE (A 269) (A 263 11) (A 263 10) 7) (skB (A 269) (A 263 11) (A 263 10)))) with | ⟨A1, q1⟩ => pv_virt rfl rfl rfl rfl rfl (oX12_k hp263) rfl rfl rfl (ev_eqM q1 (r_passes (q := 7) (A := A) hp263 H.1 H.2.1 H.2.2.1 H.2.2.2.1 )) (pv_if_eq_zo rfl  (fun c2 => (pn_iconst rfl rfl   (pv_iretz rfl rfl (Or.inr rfl) ((H.2.2.2.2 A1 q1).1 c2)))) (fun c2 => (pv_aload_n rfl rfl   (match (hS (A := A1) ((H.2.2.2.2 A1 q1).2 c2).1 ((H.2.2.2.2 A1 q1).2 c2).2.1 ((H.2.2.2.2 A1 q1).2 c2).2.2.1 ((H.2.2.2.2 A1 q1).2 c2).2.2.2.1 ((H.2.2.2.2 A1 q1).2 c2).2.2.2.2.1 ((H.2.2.2.2 A1 q1).2 c2).2.2.2.2.2.1 ((H.2.2.2.2 A1 q1).2 c2).2.2.2.2.2.2.1 ) with | ⟨A1v2, e3x19, h3⟩ => pv_virt rfl rfl rfl rfl rfl (oX12_k hp263) rfl rfl rfl e3x19 (pv_if_ne_zo rfl  (fun c4 => (pv_aload_n rfl rfl   (pn_bipush rfl rfl   (pn_iconst rfl rfl   (match (⟨(ry A1v2 (emC (A1v2 264) (A1v2 263 16) 15 0) (A1v2 263 10) (A1v2 263 12) (A1v2 263 16 + 1) (A1v2 263 13)), rfl⟩ : ∃ Z : Nat → Nat → Nat, Z = (ry A1v2 (emC (A1v2 264) (A1v2 263 16) 15 0) (A1v2 263 10) (A1v2 263 12) (A1v2 263 16 + 1) (A1v2 263 13))) with | ⟨A5, q5⟩ => pv_virt rfl rfl rfl rfl rfl (oX12_k hp263) rfl rfl rfl (ev_eqM q5 (r_emits (code := 15) (n := 0) (A := A1v2) hp263 ((((H.2.2.2.2 A1 q1).2 c2).2.2.2.2.2.2.2 A1v2 h3).1 c4).1 )) (pv_goto rfl (((((H.2.2.2.2 A1 q1).2 c2).2.2.2.2.2.2.2 A1v2 h3).1 c4).2 A5 q5))))))) (fun c4 => (pn_iconst rfl rfl   (pv_iretz rfl rfl (Or.inl rfl) ((((H.2.2.2.2 A1 q1).2 c2).2.2.2.2.2.2.2 A1v2 h3).2 c4))))))))))))
theorem r_allOf {X : gv_X} {d : Nat} {G : gv_Sh} {A : Nat → Nat → Nat} {j : Nat → Nat → Int64} {cc : gv_Rs} {P : gv_O × gv_S → Prop} {f : Nat} (hp263 : oX12 G 263) (hS : ∀ g, g ≤ f → ∀ {B : Nat → Nat → Nat}, (B 263 11 ≤ 400) → (B 263 10 ≤ B 263 11) → (∀ i, i < 400 → B 269 i < 4294967296) → (B 263 16 + 1 ≤ B 263 10) → (B 263 13 ≤ 6) → (5 * (B 263 11 - B 263 10) + 1 ≤ g) → (B 263 13 = (A 263 13)) → ∃ B1 : Nat → Nat → Nat, Ev X (d + 6) gvm_238 0 (gv_enter [.ref 263] 2) [] (G, (mI B, j), cc) (.inl (some (.int (zo (pG (B 269) (B 263 11) g 0 (B 263 13) (B 263 10)).1))), (G, (mI B1, j), cc)) ∧ (lwP B B1 (pG (B 269) (B 263 11) g 0 (B 263 13) (B 263 10)))) (p0 : A 263 11 ≤ 400) (p1 : A 263 10 ≤ A 263 11) (p2 : ∀ i, i < 400 → A 269 i < 4294967296) (p3 : A 263 16 + 1 ≤ A 263 10) (p4 : A 263 13 ≤ 6) (p5 : 5 * (A 263 11 - A 263 10) + 2 ≤ (f + 1)) (hP : ∀ A1 : Nat → Nat → Nat, lwP A A1 (pG (A 269) (A 263 11) (f + 1) 1 (A 263 13) (A 263 10)) → P (.inl (some (.int (zo (pG (A 269) (A 263 11) (f + 1) 1 (A 263 13) (A 263 10)).1))), (G, (mI A1, j), cc))) : EvP X (d + 7) gvm_239 0 (gv_enter [.ref 263] 1) [] (G, (mI A, j), cc) P := by
  have w7 := wl_7
  obtain ⟨r, hr⟩ : ∃ r : LwS, (pG (A 269) (A 263 11) (f + 1) 1 (A 263 13) (A 263 10)) = r := ⟨_, rfl⟩
  rw [hr] at hP
  have fr : ∀ p b n' d' cs, lwF A (ry A (emL (A 264) (A 263 16) cs) p b n' d') := fun p b n' d' cs => lwF_ry (fun i hi => emL_o _ _ _ i (by omega))
  have L : ∀ g i b cs, g ≤ f → i ≤ (A 263 11) → 5 * ((A 263 11) - i) + 1 ≤ g → (A 263 16) + cs.length + 1 ≤ i → ((pG (A 269) (A 263 11) g 3 (A 263 13) i).1, cs ++ (pG (A 269) (A 263 11) g 3 (A 263 13) i).2.1, (pG (A 269) (A 263 11) g 3 (A 263 13) i).2.2) = r → EvP X (d + 7) gvm_239 9 [some (.ref 263)] [] (G, (mI (ry A (emL (A 264) (A 263 16) cs) i b ((A 263 16) + (cs).length) (A 263 13)), j), cc) P := by
    intro g
    induction g with
    | zero => intro i b cs hg hi hf hc hs; omega
    | succ g ih =>
      intro i b cs hg hi hf hc hs
      have b1 := skB_b (t := (A 269)) (E := (A 263 11)) hi
      have pe := psE_b (t := (A 269)) (E := (A 263 11)) (q := 7) hi
      obtain ⟨Z, hZ⟩ : ∃ Z, Z = (ry A (emL (A 264) (A 263 16) cs) i b ((A 263 16) + (cs).length) (A 263 13)) := ⟨_, rfl⟩
      have m10 : Z 263 10 = i := by rw [hZ, ry_p]
      have m11 : Z 263 11 = (A 263 11) := by rw [hZ, ry_11]
      have m9 : Z 269 = (A 269) := by rw [hZ, ry_9]
      rw [← hZ]
      refine w239_9 (f := g) (k := A 263 13) hp263 (hS g (by omega)) ⟨by omega, by omega, by rw [m9]; exact p2, by omega, fun A1 q1 => ?_⟩
      simp only [m9, m10, m11] at q1 ⊢
      rw [hZ, ry_lx] at q1
      have a10 : A1 263 10 = psE (A 269) (A 263 11) i 7 := by rw [q1, ry_p]
      have a11 : A1 263 11 = (A 263 11) := by rw [q1, ry_11]
      have a9 : A1 269 = (A 269) := by rw [q1, ry_9]
      have a16 : A1 263 16 = (A 263 16) + cs.length := by rw [q1, ry_n]
      have a13 : A1 263 13 = (A 263 13) := by rw [q1, ry_d]
      have a4 : A1 264 = emL (A 264) (A 263 16) cs := by rw [q1, ry_4]
      refine ⟨fun c2 => ?_, fun c2 => ?_⟩
      · have pz : psE (A 269) (A 263 11) i 7 = skB (A 269) (A 263 11) i := by unfold psE; rw [if_neg (by rw [c2]; decide)]
        rw [pz] at q1
        have e : (pG (A 269) (A 263 11) (g + 1) 3 (A 263 13) i) = (true, [], skB (A 269) (A 263 11) i, skB (A 269) (A 263 11) i) := by unfold pG; rw [if_neg (by decide), if_neg (by decide), if_neg (by decide), if_pos rfl, if_neg (by rw [c2]; decide)]
        rw [e, List.append_nil] at hs
        rw [← hs] at hP
        exact qz1 (hP A1 ⟨fun _ => q1, fun z => (by cases z)⟩) rfl
      · have pw := psE_w hi c2
        simp only [a9, a10, a11, a16, a13]
        refine ⟨by omega, by omega, p2, by omega, by omega, by omega, trivial, fun A12 h3 => ?_⟩
        refine ⟨fun c4 => ?_, fun c4 => ?_⟩
        · have p := pG_b g 0 (A 263 13) _ pw.2 c4
          have q := h3.1 c4
          rw [a4, a16, a13, q1, ry_ry, ← emL_app, Nat.add_assoc, ← List.length_append] at q
          have n16 : A12 263 16 = (A 263 16) + (cs ++ (pG (A 269) (A 263 11) g 0 (A 263 13) (psE (A 269) (A 263 11) i 7)).2.1).length := by rw [q, ry_n]
          have ll : (cs ++ (pG (A 269) (A 263 11) g 0 (A 263 13) (psE (A 269) (A 263 11) i 7)).2.1).length = cs.length + (pG (A 269) (A 263 11) g 0 (A 263 13) (psE (A 269) (A 263 11) i 7)).2.1.length := List.length_append
          refine ⟨by omega, fun A5 q5 => ?_⟩
          rw [q] at q5
          simp only [ry_4, ry_p, ry_b, ry_n, ry_d, ry_ry] at q5
          have e : (pG (A 269) (A 263 11) (g + 1) 3 (A 263 13) i) = ((pG (A 269) (A 263 11) g 3 (A 263 13) (pG (A 269) (A 263 11) g 0 (A 263 13) (psE (A 269) (A 263 11) i 7)).2.2.1).1, (pG (A 269) (A 263 11) g 0 (A 263 13) (psE (A 269) (A 263 11) i 7)).2.1 ++ ([(15, 0)] ++ (pG (A 269) (A 263 11) g 3 (A 263 13) (pG (A 269) (A 263 11) g 0 (A 263 13) (psE (A 269) (A 263 11) i 7)).2.2.1).2.1), (pG (A 269) (A 263 11) g 3 (A 263 13) (pG (A 269) (A 263 11) g 0 (A 263 13) (psE (A 269) (A 263 11) i 7)).2.2.1).2.2) := by
            show (if _ then _ else _) = _
            rw [if_neg (by decide), if_neg (by decide), if_neg (by decide), if_pos rfl, if_pos c2, if_pos c4]
          rw [e] at hs
          have i1 := ih (pG (A 269) (A 263 11) g 0 (A 263 13) (psE (A 269) (A 263 11) i 7)).2.2.1 (pG (A 269) (A 263 11) g 0 (A 263 13) (psE (A 269) (A 263 11) i 7)).2.2.2 (cs ++ (pG (A 269) (A 263 11) g 0 (A 263 13) (psE (A 269) (A 263 11) i 7)).2.1 ++ [(15, 0)]) (by omega) p.2 (by omega) (by rw [List.length_append, ll]; show _ + (_ + 1) + 1 ≤ _; omega) (by rw [← hs, List.append_assoc, List.append_assoc])
          have e2 : emL (A 264) (A 263 16) (cs ++ (pG (A 269) (A 263 11) g 0 (A 263 13) (psE (A 269) (A 263 11) i 7)).2.1 ++ [(15, 0)]) = emC (emL (A 264) (A 263 16) (cs ++ (pG (A 269) (A 263 11) g 0 (A 263 13) (psE (A 269) (A 263 11) i 7)).2.1)) ((A 263 16) + (cs ++ (pG (A 269) (A 263 11) g 0 (A 263 13) (psE (A 269) (A 263 11) i 7)).2.1).length) 15 0 := by rw [emL_app]; rfl
          have e3 : (cs ++ (pG (A 269) (A 263 11) g 0 (A 263 13) (psE (A 269) (A 263 11) i 7)).2.1 ++ [(15, 0)]).length = (cs ++ (pG (A 269) (A 263 11) g 0 (A 263 13) (psE (A 269) (A 263 11) i 7)).2.1).length + 1 := by rw [List.length_append]; rfl
          rw [e2, e3, ← Nat.add_assoc] at i1
          rw [q5]
          exact i1
        · have q := h3.2 c4
          have e : (pG (A 269) (A 263 11) (g + 1) 3 (A 263 13) i) = (false, [], 0, (pG (A 269) (A 263 11) g 0 (A 263 13) (psE (A 269) (A 263 11) i 7)).2.2.2) := by
            show (if _ then _ else _) = _
            rw [if_neg (by decide), if_neg (by decide), if_neg (by decide), if_pos rfl, if_pos c2, if_neg (by rw [c4]; decide)]
          rw [e] at hs
          rw [← hs] at hP
          refine qz0 (hP A12 ⟨fun z => (by cases z), fun _ => ⟨q.1, lwF_tr ?_ q.2⟩⟩) rfl
          rw [q1]
          exact fr _ _ _ _ _
  refine w239 (f := f) (k := A 263 13) hp263 (hS f (Nat.le_refl _)) ⟨p0, p1, p2, p3, p4, by omega, rfl, fun A11 h1 => ⟨fun c2 => ?_, fun c2 => ?_⟩⟩
  · have p := pG_b f 0 (A 263 13) _ p1 c2
    have q := h1.1 c2
    rw [q]
    refine L f _ _ _ (Nat.le_refl _) p.2 (by omega) (by omega) ?_
    rw [← hr]
    show _ = (if _ then _ else _)
    rw [if_neg (by decide), if_pos rfl, if_pos c2]
  · have q := h1.2 c2
    have e : r = (false, [], 0, (pG (A 269) (A 263 11) f 0 (A 263 13) (A 263 10)).2.2.2) := by
      rw [← hr]
      show (if _ then _ else _) = _
      rw [if_neg (by decide), if_pos rfl, if_neg (by rw [c2]; decide)]
    rw [e] at hP
    exact qz0 (hP A11 ⟨fun z => (by cases z), fun _ => q⟩) rfl
theorem w240 {X : gv_X} {d : Nat} {G : gv_Sh} {A : Nat → Nat → Nat} {j : Nat → Nat → Int64} {cc : gv_Rs} {P : gv_O × gv_S → Prop}  (hp263 : oX12 G 263) {f k : Nat} (hS : ∀ {A : Nat → Nat → Nat}, (A 263 11 ≤ 400) → (A 263 10 ≤ A 263 11) → (∀ i, i < 400 → A 269 i < 4294967296) → (A 263 16 + 1 ≤ A 263 10) → (A 263 13 ≤ 6) → (5 * (A 263 11 - A 263 10) + 2 ≤ f) → (A 263 13 = k) → ∃ A1 : Nat → Nat → Nat, Ev X (d + 7) gvm_239 0 (gv_enter [.ref 263] 1) [] (G, (mI A, j), cc) (.inl (some (.int (zo (pG (A 269) (A 263 11) f 1 (A 263 13) (A 263 10)).1))), (G, (mI A1, j), cc)) ∧ (lwP A A1 (pG (A 269) (A 263 11) f 1 (A 263 13) (A 263 10)))) (H : (A 263 11 ≤ 400) ∧ ((A 263 10 ≤ A 263 11) ∧ ((∀ i, i < 400 → A 269 i < 4294967296) ∧ ((A 263 16 + 1 ≤ A 263 10) ∧ ((A 263 13 ≤ 6) ∧ ((5 * (A 263 11 - A 263 10) + 2 ≤ f) ∧ ((A 263 13 = k) ∧ ((∀ A1v1 : Nat → Nat → Nat, ((lwP A A1v1 (pG (A 269) (A 263 11) f 1 (A 263 13) (A 263 10)))) → (((pG (A 269) (A 263 11) f 1 (A 263 13) (A 263 10)).1 = true) → EvP X (d + 8) gvm_240 9 [some (.ref 263)] [] (G, (mI A1v1, j), cc) P) ∧ (((pG (A 269) (A 263 11) f 1 (A 263 13) (A 263 10)).1 = false) → P (.inl (some (.int (nI 0))), (G, (mI A1v1, j), cc)))))))))))) : EvP X (d + 8) gvm_240 0 (gv_enter [.ref 263] 1) [] (G, (mI A, j), cc) P :=
  (pv_aload_n rfl rfl   (match (hS (A := A) H.1 H.2.1 H.2.2.1 H.2.2.2.1 H.2.2.2.2.1 H.2.2.2.2.2.1 H.2.2.2.2.2.2.1 ) with | ⟨A1v1, e1x1, h1⟩ => pv_virt rfl rfl rfl rfl rfl (oX12_k hp263) rfl rfl rfl e1x1 (pv_if_ne_zo rfl  (fun c2 => ((H.2.2.2.2.2.2.2 A1v1 h1).1 c2)) (fun c2 => (pn_iconst rfl rfl   (pv_iretz rfl rfl (Or.inl rfl) ((H.2.2.2.2.2.2.2 A1v1 h1).2 c2)))))))
theorem w240_9 {X : gv_X} {d : Nat} {G : gv_Sh} {A : Nat → Nat → Nat} {j : Nat → Nat → Int64} {cc : gv_Rs} {P : gv_O × gv_S → Prop}  (hp263 : oX12 G 263) {f k : Nat} (hS : ∀ {A : Nat → Nat → Nat}, (A 263 11 ≤ 400) → (A 263 10 ≤ A 263 11) → (∀ i, i < 400 → A 269 i < 4294967296) → (A 263 16 + 1 ≤ A 263 10) → (A 263 13 ≤ 6) → (5 * (A 263 11 - A 263 10) + 2 ≤ f) → (A 263 13 = k) → ∃ A1 : Nat → Nat → Nat, Ev X (d + 7) gvm_239 0 (gv_enter [.ref 263] 1) [] (G, (mI A, j), cc) (.inl (some (.int (zo (pG (A 269) (A 263 11) f 1 (A 263 13) (A 263 10)).1))), (G, (mI A1, j), cc)) ∧ (lwP A A1 (pG (A 269) (A 263 11) f 1 (A 263 13) (A 263 10)))) (H : (A 263 11 ≤ 400) ∧ ((A 263 10 ≤ A 263 11) ∧ ((∀ i, i < 400 → A 269 i < 4294967296) ∧ ((1 ≤ 6 ∧ 6 < 40) ∧ ((∀ A1 : Nat → Nat → Nat, A1 = (lx A (psE (A 269) (A 263 11) (A 263 10) 6) (skB (A 269) (A 263 11) (A 263 10))) → (((psB (A 269) (A 263 11) (A 263 10) 6) = false) → P (.inl (some (.int (nI 1))), (G, (mI A1, j), cc))) ∧ (((psB (A 269) (A 263 11) (A 263 10) 6) = true) → (A1 263 11 ≤ 400) ∧ ((A1 263 10 ≤ A1 263 11) ∧ ((∀ i, i < 400 → A1 269 i < 4294967296) ∧ ((A1 263 16 + 1 ≤ A1 263 10) ∧ ((A1 263 13 ≤ 6) ∧ ((5 * (A1 263 11 - A1 263 10) + 2 ≤ f) ∧ ((A1 263 13 = k) ∧ ((∀ A1v2 : Nat → Nat → Nat, ((lwP A1 A1v2 (pG (A1 269) (A1 263 11) f 1 (A1 263 13) (A1 263 10)))) → (((pG (A1 269) (A1 263 11) f 1 (A1 263 13) (A1 263 10)).1 = true) → (A1v2 263 16 ≤ 399) ∧ ((∀ A5 : Nat → Nat → Nat, A5 = (ry A1v2 (emC (A1v2 264) (A1v2 263 16) 16 0) (A1v2 263 10) (A1v2 263 12) (A1v2 263 16 + 1) (A1v2 263 13)) → EvP X (d + 8) gvm_240 9 [some (.ref 263)] [] (G, (mI A5, j), cc) P))) ∧ (((pG (A1 269) (A1 263 11) f 1 (A1 263 13) (A1 263 10)).1 = false) → P (.inl (some (.int (nI 0))), (G, (mI A1v2, j), cc)))))))))))))))))) : EvP X (d + 8) gvm_240 9 [some (.ref 263)] [] (G, (mI A, j), cc) P :=
  (pv_aload_n rfl rfl   (pv_ldc_wS rfl   (match (⟨(lx A (psE (A 269) (A 263 11) (A 263 10) 6) (skB (A 269) (A 263 11) (A 263 10))), rfl⟩ : ∃ Z : Nat → Nat → Nat, Z = (lx A (psE (A 269) (A 263 11) (A 263 10) 6) (skB (A 269) (A 263 11) (A 263 10)))) with | ⟨A1, q1⟩ => pv_virt rfl rfl rfl rfl rfl (oX12_k hp263) rfl rfl rfl (ev_eqM q1 (r_passes (q := 6) (A := A) hp263 H.1 H.2.1 H.2.2.1 H.2.2.2.1 )) (pv_if_eq_zo rfl  (fun c2 => (pn_iconst rfl rfl   (pv_iretz rfl rfl (Or.inr rfl) ((H.2.2.2.2 A1 q1).1 c2)))) (fun c2 => (pv_aload_n rfl rfl   (match (hS (A := A1) ((H.2.2.2.2 A1 q1).2 c2).1 ((H.2.2.2.2 A1 q1).2 c2).2.1 ((H.2.2.2.2 A1 q1).2 c2).2.2.1 ((H.2.2.2.2 A1 q1).2 c2).2.2.2.1 ((H.2.2.2.2 A1 q1).2 c2).2.2.2.2.1 ((H.2.2.2.2 A1 q1).2 c2).2.2.2.2.2.1 ((H.2.2.2.2 A1 q1).2 c2).2.2.2.2.2.2.1 ) with | ⟨A1v2, e3x20, h3⟩ => pv_virt rfl rfl rfl rfl rfl (oX12_k hp263) rfl rfl rfl e3x20 (pv_if_ne_zo rfl  (fun c4 => (pv_aload_n rfl rfl   (pn_bipush rfl rfl   (pn_iconst rfl rfl   (match (⟨(ry A1v2 (emC (A1v2 264) (A1v2 263 16) 16 0) (A1v2 263 10) (A1v2 263 12) (A1v2 263 16 + 1) (A1v2 263 13)), rfl⟩ : ∃ Z : Nat → Nat → Nat, Z = (ry A1v2 (emC (A1v2 264) (A1v2 263 16) 16 0) (A1v2 263 10) (A1v2 263 12) (A1v2 263 16 + 1) (A1v2 263 13))) with | ⟨A5, q5⟩ => pv_virt rfl rfl rfl rfl rfl (oX12_k hp263) rfl rfl rfl (ev_eqM q5 (r_emits (code := 16) (n := 0) (A := A1v2) hp263 ((((H.2.2.2.2 A1 q1).2 c2).2.2.2.2.2.2.2 A1v2 h3).1 c4).1 )) (pv_goto rfl (((((H.2.2.2.2 A1 q1).2 c2).2.2.2.2.2.2.2 A1v2 h3).1 c4).2 A5 q5))))))) (fun c4 => (pn_iconst rfl rfl   (pv_iretz rfl rfl (Or.inl rfl) ((((H.2.2.2.2 A1 q1).2 c2).2.2.2.2.2.2.2 A1v2 h3).2 c4))))))))))))
theorem r_condS {X : gv_X} {d : Nat} {G : gv_Sh} {A : Nat → Nat → Nat} {j : Nat → Nat → Int64} {cc : gv_Rs} {P : gv_O × gv_S → Prop} {f : Nat} (hp263 : oX12 G 263) (hS : ∀ g, g ≤ f → ∀ {B : Nat → Nat → Nat}, (B 263 11 ≤ 400) → (B 263 10 ≤ B 263 11) → (∀ i, i < 400 → B 269 i < 4294967296) → (B 263 16 + 1 ≤ B 263 10) → (B 263 13 ≤ 6) → (5 * (B 263 11 - B 263 10) + 2 ≤ g) → (B 263 13 = (A 263 13)) → ∃ B1 : Nat → Nat → Nat, Ev X (d + 7) gvm_239 0 (gv_enter [.ref 263] 1) [] (G, (mI B, j), cc) (.inl (some (.int (zo (pG (B 269) (B 263 11) g 1 (B 263 13) (B 263 10)).1))), (G, (mI B1, j), cc)) ∧ (lwP B B1 (pG (B 269) (B 263 11) g 1 (B 263 13) (B 263 10)))) (p0 : A 263 11 ≤ 400) (p1 : A 263 10 ≤ A 263 11) (p2 : ∀ i, i < 400 → A 269 i < 4294967296) (p3 : A 263 16 + 1 ≤ A 263 10) (p4 : A 263 13 ≤ 6) (p5 : 5 * (A 263 11 - A 263 10) + 4 ≤ (f + 1)) (hP : ∀ A1 : Nat → Nat → Nat, lwP A A1 (pG (A 269) (A 263 11) (f + 1) 2 (A 263 13) (A 263 10)) → P (.inl (some (.int (zo (pG (A 269) (A 263 11) (f + 1) 2 (A 263 13) (A 263 10)).1))), (G, (mI A1, j), cc))) : EvP X (d + 8) gvm_240 0 (gv_enter [.ref 263] 1) [] (G, (mI A, j), cc) P := by
  have w7 := wl_7
  obtain ⟨r, hr⟩ : ∃ r : LwS, (pG (A 269) (A 263 11) (f + 1) 2 (A 263 13) (A 263 10)) = r := ⟨_, rfl⟩
  rw [hr] at hP
  have fr : ∀ p b n' d' cs, lwF A (ry A (emL (A 264) (A 263 16) cs) p b n' d') := fun p b n' d' cs => lwF_ry (fun i hi => emL_o _ _ _ i (by omega))
  have L : ∀ g i b cs, g ≤ f → i ≤ (A 263 11) → 5 * ((A 263 11) - i) + 3 ≤ g → (A 263 16) + cs.length + 1 ≤ i → ((pG (A 269) (A 263 11) g 4 (A 263 13) i).1, cs ++ (pG (A 269) (A 263 11) g 4 (A 263 13) i).2.1, (pG (A 269) (A 263 11) g 4 (A 263 13) i).2.2) = r → EvP X (d + 8) gvm_240 9 [some (.ref 263)] [] (G, (mI (ry A (emL (A 264) (A 263 16) cs) i b ((A 263 16) + (cs).length) (A 263 13)), j), cc) P := by
    intro g
    induction g with
    | zero => intro i b cs hg hi hf hc hs; omega
    | succ g ih =>
      intro i b cs hg hi hf hc hs
      have b1 := skB_b (t := (A 269)) (E := (A 263 11)) hi
      have pe := psE_b (t := (A 269)) (E := (A 263 11)) (q := 6) hi
      obtain ⟨Z, hZ⟩ : ∃ Z, Z = (ry A (emL (A 264) (A 263 16) cs) i b ((A 263 16) + (cs).length) (A 263 13)) := ⟨_, rfl⟩
      have m10 : Z 263 10 = i := by rw [hZ, ry_p]
      have m11 : Z 263 11 = (A 263 11) := by rw [hZ, ry_11]
      have m9 : Z 269 = (A 269) := by rw [hZ, ry_9]
      rw [← hZ]
      refine w240_9 (f := g) (k := A 263 13) hp263 (hS g (by omega)) ⟨by omega, by omega, by rw [m9]; exact p2, by omega, fun A1 q1 => ?_⟩
      simp only [m9, m10, m11] at q1 ⊢
      rw [hZ, ry_lx] at q1
      have a10 : A1 263 10 = psE (A 269) (A 263 11) i 6 := by rw [q1, ry_p]
      have a11 : A1 263 11 = (A 263 11) := by rw [q1, ry_11]
      have a9 : A1 269 = (A 269) := by rw [q1, ry_9]
      have a16 : A1 263 16 = (A 263 16) + cs.length := by rw [q1, ry_n]
      have a13 : A1 263 13 = (A 263 13) := by rw [q1, ry_d]
      have a4 : A1 264 = emL (A 264) (A 263 16) cs := by rw [q1, ry_4]
      refine ⟨fun c2 => ?_, fun c2 => ?_⟩
      · have pz : psE (A 269) (A 263 11) i 6 = skB (A 269) (A 263 11) i := by unfold psE; rw [if_neg (by rw [c2]; decide)]
        rw [pz] at q1
        have e : (pG (A 269) (A 263 11) (g + 1) 4 (A 263 13) i) = (true, [], skB (A 269) (A 263 11) i, skB (A 269) (A 263 11) i) := by unfold pG; rw [if_neg (by decide), if_neg (by decide), if_neg (by decide), if_neg (by decide), if_neg (by rw [c2]; decide)]
        rw [e, List.append_nil] at hs
        rw [← hs] at hP
        exact qz1 (hP A1 ⟨fun _ => q1, fun z => (by cases z)⟩) rfl
      · have pw := psE_w hi c2
        simp only [a9, a10, a11, a16, a13]
        refine ⟨by omega, by omega, p2, by omega, by omega, by omega, trivial, fun A12 h3 => ?_⟩
        refine ⟨fun c4 => ?_, fun c4 => ?_⟩
        · have p := pG_b g 1 (A 263 13) _ pw.2 c4
          have q := h3.1 c4
          rw [a4, a16, a13, q1, ry_ry, ← emL_app, Nat.add_assoc, ← List.length_append] at q
          have n16 : A12 263 16 = (A 263 16) + (cs ++ (pG (A 269) (A 263 11) g 1 (A 263 13) (psE (A 269) (A 263 11) i 6)).2.1).length := by rw [q, ry_n]
          have ll : (cs ++ (pG (A 269) (A 263 11) g 1 (A 263 13) (psE (A 269) (A 263 11) i 6)).2.1).length = cs.length + (pG (A 269) (A 263 11) g 1 (A 263 13) (psE (A 269) (A 263 11) i 6)).2.1.length := List.length_append
          refine ⟨by omega, fun A5 q5 => ?_⟩
          rw [q] at q5
          simp only [ry_4, ry_p, ry_b, ry_n, ry_d, ry_ry] at q5
          have e : (pG (A 269) (A 263 11) (g + 1) 4 (A 263 13) i) = ((pG (A 269) (A 263 11) g 4 (A 263 13) (pG (A 269) (A 263 11) g 1 (A 263 13) (psE (A 269) (A 263 11) i 6)).2.2.1).1, (pG (A 269) (A 263 11) g 1 (A 263 13) (psE (A 269) (A 263 11) i 6)).2.1 ++ ([(16, 0)] ++ (pG (A 269) (A 263 11) g 4 (A 263 13) (pG (A 269) (A 263 11) g 1 (A 263 13) (psE (A 269) (A 263 11) i 6)).2.2.1).2.1), (pG (A 269) (A 263 11) g 4 (A 263 13) (pG (A 269) (A 263 11) g 1 (A 263 13) (psE (A 269) (A 263 11) i 6)).2.2.1).2.2) := by
            show (if _ then _ else _) = _
            rw [if_neg (by decide), if_neg (by decide), if_neg (by decide), if_neg (by decide), if_pos c2, if_pos c4]
          rw [e] at hs
          have i1 := ih (pG (A 269) (A 263 11) g 1 (A 263 13) (psE (A 269) (A 263 11) i 6)).2.2.1 (pG (A 269) (A 263 11) g 1 (A 263 13) (psE (A 269) (A 263 11) i 6)).2.2.2 (cs ++ (pG (A 269) (A 263 11) g 1 (A 263 13) (psE (A 269) (A 263 11) i 6)).2.1 ++ [(16, 0)]) (by omega) p.2 (by omega) (by rw [List.length_append, ll]; show _ + (_ + 1) + 1 ≤ _; omega) (by rw [← hs, List.append_assoc, List.append_assoc])
          have e2 : emL (A 264) (A 263 16) (cs ++ (pG (A 269) (A 263 11) g 1 (A 263 13) (psE (A 269) (A 263 11) i 6)).2.1 ++ [(16, 0)]) = emC (emL (A 264) (A 263 16) (cs ++ (pG (A 269) (A 263 11) g 1 (A 263 13) (psE (A 269) (A 263 11) i 6)).2.1)) ((A 263 16) + (cs ++ (pG (A 269) (A 263 11) g 1 (A 263 13) (psE (A 269) (A 263 11) i 6)).2.1).length) 16 0 := by rw [emL_app]; rfl
          have e3 : (cs ++ (pG (A 269) (A 263 11) g 1 (A 263 13) (psE (A 269) (A 263 11) i 6)).2.1 ++ [(16, 0)]).length = (cs ++ (pG (A 269) (A 263 11) g 1 (A 263 13) (psE (A 269) (A 263 11) i 6)).2.1).length + 1 := by rw [List.length_append]; rfl
          rw [e2, e3, ← Nat.add_assoc] at i1
          rw [q5]
          exact i1
        · have q := h3.2 c4
          have e : (pG (A 269) (A 263 11) (g + 1) 4 (A 263 13) i) = (false, [], 0, (pG (A 269) (A 263 11) g 1 (A 263 13) (psE (A 269) (A 263 11) i 6)).2.2.2) := by
            show (if _ then _ else _) = _
            rw [if_neg (by decide), if_neg (by decide), if_neg (by decide), if_neg (by decide), if_pos c2, if_neg (by rw [c4]; decide)]
          rw [e] at hs
          rw [← hs] at hP
          refine qz0 (hP A12 ⟨fun z => (by cases z), fun _ => ⟨q.1, lwF_tr ?_ q.2⟩⟩) rfl
          rw [q1]
          exact fr _ _ _ _ _
  refine w240 (f := f) (k := A 263 13) hp263 (hS f (Nat.le_refl _)) ⟨p0, p1, p2, p3, p4, by omega, rfl, fun A11 h1 => ⟨fun c2 => ?_, fun c2 => ?_⟩⟩
  · have p := pG_b f 1 (A 263 13) _ p1 c2
    have q := h1.1 c2
    rw [q]
    refine L f _ _ _ (Nat.le_refl _) p.2 (by omega) (by omega) ?_
    rw [← hr]
    show _ = (if _ then _ else _)
    rw [if_neg (by decide), if_neg (by decide), if_pos rfl, if_pos c2]
  · have q := h1.2 c2
    have e : r = (false, [], 0, (pG (A 269) (A 263 11) f 1 (A 263 13) (A 263 10)).2.2.2) := by
      rw [← hr]
      show (if _ then _ else _) = _
      rw [if_neg (by decide), if_neg (by decide), if_pos rfl, if_neg (by rw [c2]; decide)]
    rw [e] at hP
    exact qz0 (hP A11 ⟨fun z => (by cases z), fun _ => q⟩) rfl
