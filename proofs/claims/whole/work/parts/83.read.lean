/-! sums, tags of the law -/
def smL (t : Nat → Nat) (E : Nat) : Nat → Nat → LwS
  | 0, i => (true, [], i, i)
  | f + 1, i => if sgB t E i 43 = true then (if (ptS t E (sgE t E i 43)).1 = true then ((smL t E f (ptS t E (sgE t E i 43)).2.2.1).1, (ptS t E (sgE t E i 43)).2.1 ++ ([(11, 0)] ++ (smL t E f (ptS t E (sgE t E i 43)).2.2.1).2.1), (smL t E f (ptS t E (sgE t E i 43)).2.2.1).2.2) else (false, [], 0, (ptS t E (sgE t E i 43)).2.2.2)) else (true, [], skB t E i, skB t E i)
def suS (t : Nat → Nat) (E i : Nat) : LwS := if (ptS t E i).1 = true then ((smL t E 401 (ptS t E i).2.2.1).1, (ptS t E i).2.1 ++ (smL t E 401 (ptS t E i).2.2.1).2.1, (smL t E 401 (ptS t E i).2.2.1).2.2) else (false, [], 0, (ptS t E i).2.2.2)
theorem sgE_b {t : Nat → Nat} {E i c : Nat} (h : i ≤ E) : skB t E i ≤ sgE t E i c ∧ sgE t E i c ≤ E ∧ (sgB t E i c = true → sgE t E i c = skB t E i + 1) ∧ (sgB t E i c = false → sgE t E i c = skB t E i) := by
  have b := skB_b (t := t) h
  unfold sgE
  by_cases e : sgB t E i c = true
  · have := (of_decide_eq_true e).1
    rw [if_pos e]
    refine ⟨by omega, by omega, fun _ => rfl, fun z => by rw [z] at e; cases e⟩
  · rw [if_neg e]
    refine ⟨by omega, by omega, fun z => absurd z e, fun _ => rfl⟩
theorem smL_b {t : Nat → Nat} {E : Nat} : ∀ {f i : Nat}, i ≤ E → (smL t E f i).1 = true → i + (smL t E f i).2.1.length ≤ (smL t E f i).2.2.1 ∧ (smL t E f i).2.2.1 ≤ E
  | 0, i, hi, _ => ⟨Nat.le_refl _, hi⟩
  | f + 1, i, hi, h => by
    have b := skB_b (t := t) hi
    have g := sgE_b (t := t) (c := 43) hi
    unfold smL at h ⊢
    by_cases e : sgB t E i 43 = true
    · rw [if_pos e] at h ⊢
      by_cases e2 : (ptS t E (sgE t E i 43)).1 = true
      · rw [if_pos e2] at h ⊢
        have p := ptS_b g.2.1 e2
        have s := smL_b (f := f) p.2 h
        have := g.2.2.1 e
        refine ⟨?_, s.2⟩
        show i + ((ptS t E (sgE t E i 43)).2.1 ++ ([(11, 0)] ++ (smL t E f (ptS t E (sgE t E i 43)).2.2.1).2.1)).length ≤ (smL t E f (ptS t E (sgE t E i 43)).2.2.1).2.2.1
        rw [List.length_append, List.length_append]
        show i + ((ptS t E (sgE t E i 43)).2.1.length + (1 + (smL t E f (ptS t E (sgE t E i 43)).2.2.1).2.1.length)) ≤ _
        omega
      · rw [if_neg e2] at h; cases h
    · rw [if_neg e] at h ⊢
      exact ⟨b.1, b.2⟩
theorem suS_b {t : Nat → Nat} {E i : Nat} (hi : i ≤ E) (h : (suS t E i).1 = true) : i + (suS t E i).2.1.length ≤ (suS t E i).2.2.1 ∧ (suS t E i).2.2.1 ≤ E := by
  unfold suS at h ⊢
  by_cases e : (ptS t E i).1 = true
  · rw [if_pos e] at h ⊢
    have p := ptS_b hi e
    have s := smL_b (f := 401) p.2 h
    refine ⟨?_, s.2⟩
    show i + ((ptS t E i).2.1 ++ (smL t E 401 (ptS t E i).2.2.1).2.1).length ≤ (smL t E 401 (ptS t E i).2.2.1).2.2.1
    rw [List.length_append]
    omega
  · rw [if_neg e] at h; cases h
def tgR (t : Nat → Nat) (b e : Nat) : Nat := if mt t b e 2 = true then 7 else if mt t b e 36 = true then 8 else if mt t b e 37 = true then 9 else 4294967295
theorem w236 {X : gv_X} {d : Nat} {G : gv_Sh} {A : Nat → Nat → Nat} {j : Nat → Nat → Int64} {cc : gv_Rs} {P : gv_O × gv_S → Prop}  (hp263 : oX12 G 263) (H : (A 263 11 ≤ 400) ∧ ((A 263 10 ≤ A 263 11) ∧ ((∀ i, i < 400 → A 269 i < 4294967296) ∧ ((A 263 16 + 1 ≤ A 263 10) ∧ ((∀ A11 : Nat → Nat → Nat, ((lwP A A11 (ptS (A 269) (A 263 11) (A 263 10)))) → (((ptS (A 269) (A 263 11) (A 263 10)).1 = true) → EvP X (d + 4) gvm_236 9 [some (.ref 263)] [] (G, (mI A11, j), cc) P) ∧ (((ptS (A 269) (A 263 11) (A 263 10)).1 = false) → P (.inl (some (.int (nI 0))), (G, (mI A11, j), cc))))))))) : EvP X (d + 4) gvm_236 0 (gv_enter [.ref 263] 1) [] (G, (mI A, j), cc) P :=
  (pv_aload_n rfl rfl   (match (r_readPart (A := A) (X := X) (d := d + 0) (G := G) (j := j) (cc := cc) hp263 H.1 H.2.1 H.2.2.1 H.2.2.2.1 ) with | ⟨A11, e1x1, h1⟩ => pv_virt rfl rfl rfl rfl rfl (oX12_k hp263) rfl rfl rfl e1x1 (pv_if_ne_zo rfl  (fun c2 => ((H.2.2.2.2 A11 h1).1 c2)) (fun c2 => (pn_iconst rfl rfl   (pv_iretz rfl rfl (Or.inl rfl) ((H.2.2.2.2 A11 h1).2 c2)))))))
theorem w236_9 {X : gv_X} {d : Nat} {G : gv_Sh} {A : Nat → Nat → Nat} {j : Nat → Nat → Int64} {cc : gv_Rs} {P : gv_O × gv_S → Prop}  (hp263 : oX12 G 263) (H : (A 263 11 ≤ 400) ∧ ((A 263 10 ≤ A 263 11) ∧ ((∀ i, i < 400 → A 269 i < 4294967296) ∧ ((1 ≤ 43 ∧ 43 < 128) ∧ ((∀ A1 : Nat → Nat → Nat, A1 = (lx A (sgE (A 269) (A 263 11) (A 263 10) 43) (skB (A 269) (A 263 11) (A 263 10))) → (((sgB (A 269) (A 263 11) (A 263 10) 43) = false) → P (.inl (some (.int (nI 1))), (G, (mI A1, j), cc))) ∧ (((sgB (A 269) (A 263 11) (A 263 10) 43) = true) → (A1 263 11 ≤ 400) ∧ ((A1 263 10 ≤ A1 263 11) ∧ ((∀ i, i < 400 → A1 269 i < 4294967296) ∧ ((A1 263 16 + 1 ≤ A1 263 10) ∧ ((∀ A12 : Nat → Nat → Nat, ((lwP A1 A12 (ptS (A1 269) (A1 263 11) (A1 263 10)))) → (((ptS (A1 269) (A1 263 11) (A1 263 10)).1 = true) → (A12 263 16 ≤ 399) ∧ ((∀ A5 : Nat → Nat → Nat, A5 = (ry A12 (emC (A12 264) (A12 263 16) 11 0) (A12 263 10) (A12 263 12) (A12 263 16 + 1) (A12 263 13)) → EvP X (d + 4) gvm_236 9 [some (.ref 263)] [] (G, (mI A5, j), cc) P))) ∧ (((ptS (A1 269) (A1 263 11) (A1 263 10)).1 = false) → P (.inl (some (.int (nI 0))), (G, (mI A12, j), cc))))))))))))))) : EvP X (d + 4) gvm_236 9 [some (.ref 263)] [] (G, (mI A, j), cc) P :=
  (pv_aload_n rfl rfl   (pn_bipush rfl rfl   (match (⟨(lx A (sgE (A 269) (A 263 11) (A 263 10) 43) (skB (A 269) (A 263 11) (A 263 10))), rfl⟩ : ∃ Z : Nat → Nat → Nat, Z = (lx A (sgE (A 269) (A 263 11) (A 263 10) 43) (skB (A 269) (A 263 11) (A 263 10)))) with | ⟨A1, q1⟩ => pv_virt rfl rfl rfl rfl rfl (oX12_k hp263) rfl rfl rfl (ev_eqM q1 (r_sign (c := 43) (A := A) hp263 H.1 H.2.1 H.2.2.1 H.2.2.2.1 )) (pv_if_eq_zo rfl  (fun c2 => (pn_iconst rfl rfl   (pv_iretz rfl rfl (Or.inr rfl) ((H.2.2.2.2 A1 q1).1 c2)))) (fun c2 => (pv_aload_n rfl rfl   (match (r_readPart (A := A1) (X := X) (d := d + 0) (G := G) (j := j) (cc := cc) hp263 ((H.2.2.2.2 A1 q1).2 c2).1 ((H.2.2.2.2 A1 q1).2 c2).2.1 ((H.2.2.2.2 A1 q1).2 c2).2.2.1 ((H.2.2.2.2 A1 q1).2 c2).2.2.2.1 ) with | ⟨A12, e3x19, h3⟩ => pv_virt rfl rfl rfl rfl rfl (oX12_k hp263) rfl rfl rfl e3x19 (pv_if_ne_zo rfl  (fun c4 => (pv_aload_n rfl rfl   (pn_bipush rfl rfl   (pn_iconst rfl rfl   (match (⟨(ry A12 (emC (A12 264) (A12 263 16) 11 0) (A12 263 10) (A12 263 12) (A12 263 16 + 1) (A12 263 13)), rfl⟩ : ∃ Z : Nat → Nat → Nat, Z = (ry A12 (emC (A12 264) (A12 263 16) 11 0) (A12 263 10) (A12 263 12) (A12 263 16 + 1) (A12 263 13))) with | ⟨A5, q5⟩ => pv_virt rfl rfl rfl rfl rfl (oX12_k hp263) rfl rfl rfl (ev_eqM q5 (r_emits (code := 11) (n := 0) (A := A12) hp263 ((((H.2.2.2.2 A1 q1).2 c2).2.2.2.2 A12 h3).1 c4).1 )) (pv_goto rfl (((((H.2.2.2.2 A1 q1).2 c2).2.2.2.2 A12 h3).1 c4).2 A5 q5))))))) (fun c4 => (pn_iconst rfl rfl   (pv_iretz rfl rfl (Or.inl rfl) ((((H.2.2.2.2 A1 q1).2 c2).2.2.2.2 A12 h3).2 c4))))))))))))
theorem r_readSum_p {X : gv_X} {d : Nat} {G : gv_Sh} {A : Nat → Nat → Nat} {j : Nat → Nat → Int64} {cc : gv_Rs} {P : gv_O × gv_S → Prop}  (hp263 : oX12 G 263) (p0 : A 263 11 ≤ 400) (p1 : A 263 10 ≤ A 263 11) (p2 : ∀ i, i < 400 → A 269 i < 4294967296) (p3 : A 263 16 + 1 ≤ A 263 10) (hP : ∀ A1 : Nat → Nat → Nat, (lwP A A1 (suS (A 269) (A 263 11) (A 263 10))) → P (.inl (some (.int (zo (suS (A 269) (A 263 11) (A 263 10)).1))), (G, (mI A1, j), cc))) : EvP X (d + 4) gvm_236 0 (gv_enter [.ref 263] 1) [] (G, (mI A, j), cc) P := by
  obtain ⟨r, hr⟩ : ∃ r : LwS, (suS (A 269) (A 263 11) (A 263 10)) = r := ⟨_, rfl⟩
  rw [hr] at hP
  have L : ∀ f i b cs, i ≤ (A 263 11) → (A 263 11) - i < f → A 263 16 + cs.length + 1 ≤ i → ((smL (A 269) (A 263 11) f i).1, cs ++ (smL (A 269) (A 263 11) f i).2.1, (smL (A 269) (A 263 11) f i).2.2) = r → EvP X (d + 4) gvm_236 9 [some (.ref 263)] [] (G, (mI (ry A (emL (A 264) (A 263 16) cs) i b (A 263 16 + (cs).length) (A 263 13)), j), cc) P := by
    intro f
    induction f with
    | zero => intro i b cs hi hf hc hs; omega
    | succ f ih =>
      intro i b cs hi hf hc hs
      have b1 := skB_b (t := (A 269)) (E := (A 263 11)) hi
      have g := sgE_b (t := (A 269)) (E := (A 263 11)) (c := 43) hi
      obtain ⟨M, hM⟩ : ∃ M, M = (ry A (emL (A 264) (A 263 16) cs) i b (A 263 16 + (cs).length) (A 263 13)) := ⟨_, rfl⟩
      have m10 : M 263 10 = i := by rw [hM, ry_p]
      have m11 : M 263 11 = (A 263 11) := by rw [hM, ry_11]
      have m9 : M 269 = (A 269) := by rw [hM, ry_9]
      rw [← hM]
      refine w236_9 hp263 ⟨by omega, by omega, by rw [m9]; exact p2, by omega, fun A1 q1 => ?_⟩
      simp only [m9, m10, m11] at q1 ⊢
      rw [hM, ry_lx] at q1
      have a10 : A1 263 10 = sgE (A 269) (A 263 11) i 43 := by rw [q1, ry_p]
      have a11 : A1 263 11 = (A 263 11) := by rw [q1, ry_11]
      have a9 : A1 269 = (A 269) := by rw [q1, ry_9]
      have a16 : A1 263 16 = A 263 16 + cs.length := by rw [q1, ry_n]
      have a13 : A1 263 13 = A 263 13 := by rw [q1, ry_d]
      have a4 : A1 264 = emL (A 264) (A 263 16) cs := by rw [q1, ry_4]
      refine ⟨fun c2 => ?_, fun c2 => ?_⟩
      · rw [g.2.2.2 c2] at q1
        have e : smL (A 269) (A 263 11) (f + 1) i = (true, [], skB (A 269) (A 263 11) i, skB (A 269) (A 263 11) i) := by unfold smL; rw [if_neg (by rw [c2]; decide)]
        rw [e, List.append_nil] at hs
        rw [← hs] at hP
        exact qz1 (hP A1 ⟨fun _ => q1, fun z => (by cases z)⟩) rfl
      · have g3 := g.2.2.1 c2
        refine ⟨by omega, by omega, by rw [a9]; exact p2, by omega, fun A12 h3 => ?_⟩
        simp only [a9, a10, a11] at h3 ⊢
        refine ⟨fun c4 => ?_, fun c4 => ?_⟩
        · have p := ptS_b g.2.1 c4
          have q := h3.1 c4
          rw [a4, a16, a13, q1, ry_ry, ← emL_app, Nat.add_assoc, ← List.length_append] at q
          have n16 : A12 263 16 = A 263 16 + (cs ++ (ptS (A 269) (A 263 11) (sgE (A 269) (A 263 11) i 43)).2.1).length := by rw [q, ry_n]
          have ll : (cs ++ (ptS (A 269) (A 263 11) (sgE (A 269) (A 263 11) i 43)).2.1).length = cs.length + (ptS (A 269) (A 263 11) (sgE (A 269) (A 263 11) i 43)).2.1.length := List.length_append
          refine ⟨by omega, fun A5 q5 => ?_⟩
          rw [q] at q5
          simp only [ry_4, ry_p, ry_b, ry_n, ry_d, ry_ry] at q5
          have e : smL (A 269) (A 263 11) (f + 1) i = ((smL (A 269) (A 263 11) f (ptS (A 269) (A 263 11) (sgE (A 269) (A 263 11) i 43)).2.2.1).1, (ptS (A 269) (A 263 11) (sgE (A 269) (A 263 11) i 43)).2.1 ++ ([(11, 0)] ++ (smL (A 269) (A 263 11) f (ptS (A 269) (A 263 11) (sgE (A 269) (A 263 11) i 43)).2.2.1).2.1), (smL (A 269) (A 263 11) f (ptS (A 269) (A 263 11) (sgE (A 269) (A 263 11) i 43)).2.2.1).2.2) := by
            show (if sgB (A 269) (A 263 11) i 43 = true then _ else _) = _
            rw [if_pos c2, if_pos c4]
          rw [e] at hs
          have i1 := ih (ptS (A 269) (A 263 11) (sgE (A 269) (A 263 11) i 43)).2.2.1 (ptS (A 269) (A 263 11) (sgE (A 269) (A 263 11) i 43)).2.2.2 (cs ++ (ptS (A 269) (A 263 11) (sgE (A 269) (A 263 11) i 43)).2.1 ++ [(11, 0)]) p.2 (by omega) (by rw [List.length_append, ll]; show _ + (_ + 1) + 1 ≤ _; omega) (by rw [← hs, List.append_assoc, List.append_assoc])
          have e2 : emL (A 264) (A 263 16) (cs ++ (ptS (A 269) (A 263 11) (sgE (A 269) (A 263 11) i 43)).2.1 ++ [(11, 0)]) = emC (emL (A 264) (A 263 16) (cs ++ (ptS (A 269) (A 263 11) (sgE (A 269) (A 263 11) i 43)).2.1)) (A 263 16 + (cs ++ (ptS (A 269) (A 263 11) (sgE (A 269) (A 263 11) i 43)).2.1).length) 11 0 := by rw [emL_app]; rfl
          have e3 : (cs ++ (ptS (A 269) (A 263 11) (sgE (A 269) (A 263 11) i 43)).2.1 ++ [(11, 0)]).length = (cs ++ (ptS (A 269) (A 263 11) (sgE (A 269) (A 263 11) i 43)).2.1).length + 1 := by rw [List.length_append]; rfl
          rw [e2, e3, ← Nat.add_assoc] at i1
          rw [q5]
          exact i1
        · have q := h3.2 c4
          have e : smL (A 269) (A 263 11) (f + 1) i = (false, [], 0, (ptS (A 269) (A 263 11) (sgE (A 269) (A 263 11) i 43)).2.2.2) := by
            show (if sgB (A 269) (A 263 11) i 43 = true then _ else _) = _
            rw [if_pos c2, if_neg (by rw [c4]; decide)]
          rw [e] at hs
          rw [← hs] at hP
          refine qz0 (hP A12 ⟨fun z => (by cases z), fun _ => ⟨q.1, lwF_tr ?_ q.2⟩⟩) rfl
          rw [q1]
          exact lwF_ry (fun i hi => emL_o _ _ _ i (by omega))
  refine w236 hp263 ⟨p0, p1, p2, p3, fun A11 h1 => ⟨fun c2 => ?_, fun c2 => ?_⟩⟩
  · have p := ptS_b p1 c2
    have q := h1.1 c2
    rw [q]
    refine L 401 _ _ _ p.2 (by omega) (by omega) ?_
    rw [← hr]
    unfold suS
    rw [if_pos c2]
  · have q := h1.2 c2
    have e : r = (false, [], 0, (ptS (A 269) (A 263 11) (A 263 10)).2.2.2) := by
      rw [← hr]
      unfold suS
      rw [if_neg (by rw [c2]; decide)]
    rw [e] at hP
    exact qz0 (hP A11 ⟨fun z => (by cases z), fun _ => q⟩) rfl
theorem r_readSum {X : gv_X} {d : Nat} {G : gv_Sh} {A : Nat → Nat → Nat} {j : Nat → Nat → Int64} {cc : gv_Rs}  (hp263 : oX12 G 263) (p0 : A 263 11 ≤ 400) (p1 : A 263 10 ≤ A 263 11) (p2 : ∀ i, i < 400 → A 269 i < 4294967296) (p3 : A 263 16 + 1 ≤ A 263 10) : ∃ A1 : Nat → Nat → Nat, Ev X (d + 4) gvm_236 0 (gv_enter [.ref 263] 1) [] (G, (mI A, j), cc) (.inl (some (.int (zo (suS (A 269) (A 263 11) (A 263 10)).1))), (G, (mI A1, j), cc)) ∧ (lwP A A1 (suS (A 269) (A 263 11) (A 263 10))) := by
  obtain ⟨_, h, A1, rfl, hp⟩ := r_readSum_p (X := X) (d := d) (G := G) (A := A) (j := j) (cc := cc)  (P := fun r => ∃ A1 : Nat → Nat → Nat, r = (.inl (some (.int (zo (suS (A 269) (A 263 11) (A 263 10)).1))), (G, (mI A1, j), cc)) ∧ (lwP A A1 (suS (A 269) (A 263 11) (A 263 10)))) hp263 p0 p1 p2 p3 (fun A1 h => ⟨A1, rfl, h⟩)
  exact ⟨A1, h, hp⟩
theorem w237 {X : gv_X} {d : Nat} {G : gv_Sh} {A : Nat → Nat → Nat} {j : Nat → Nat → Int64} {cc : gv_Rs} {P : gv_O × gv_S → Prop}  (hp263 : oX12 G 263) (H : (A 263 11 ≤ 400) ∧ ((A 263 10 ≤ A 263 11) ∧ ((∀ i, i < 400 → A 269 i < 4294967296) ∧ ((∀ A1 : Nat → Nat → Nat, A1 = (lx A (ltE (A 269) (A 263 11) (skB (A 269) (A 263 11) (A 263 10))) (skB (A 269) (A 263 11) (A 263 10))) → (A1 263 12 ≤ A1 263 10 ∧ A1 263 10 ≤ 400) ∧ ((∀ i, i < 400 → A1 269 i < 4294967296) ∧ ((1 ≤ 2 ∧ 2 < 40) ∧ ((((mt (A1 269) (A1 263 12) (A1 263 10) 2) = false) → (A1 263 12 ≤ A1 263 10 ∧ A1 263 10 ≤ 400) ∧ ((∀ i, i < 400 → A1 269 i < 4294967296) ∧ ((1 ≤ 36 ∧ 36 < 40) ∧ ((((mt (A1 269) (A1 263 12) (A1 263 10) 36) = false) → (A1 263 12 ≤ A1 263 10 ∧ A1 263 10 ≤ 400) ∧ ((∀ i, i < 400 → A1 269 i < 4294967296) ∧ ((1 ≤ 37 ∧ 37 < 40) ∧ ((((mt (A1 269) (A1 263 12) (A1 263 10) 37) = false) → P (.inl (some (.int (nI 0))), (G, (mI (gu A1 263 10 (A1 263 12)), j), cc))) ∧ (((mt (A1 269) (A1 263 12) (A1 263 10) 37) = true) → (A1 263 16 ≤ 399) ∧ ((∀ A8 : Nat → Nat → Nat, A8 = (ry A1 (emC (A1 264) (A1 263 16) 9 0) (A1 263 10) (A1 263 12) (A1 263 16 + 1) (A1 263 13)) → P (.inl (some (.int (nI 1))), (G, (mI A8, j), cc))))))))) ∧ (((mt (A1 269) (A1 263 12) (A1 263 10) 36) = true) → (A1 263 16 ≤ 399) ∧ ((∀ A11 : Nat → Nat → Nat, A11 = (ry A1 (emC (A1 264) (A1 263 16) 8 0) (A1 263 10) (A1 263 12) (A1 263 16 + 1) (A1 263 13)) → P (.inl (some (.int (nI 1))), (G, (mI A11, j), cc))))))))) ∧ (((mt (A1 269) (A1 263 12) (A1 263 10) 2) = true) → (A1 263 16 ≤ 399) ∧ ((∀ A14 : Nat → Nat → Nat, A14 = (ry A1 (emC (A1 264) (A1 263 16) 7 0) (A1 263 10) (A1 263 12) (A1 263 16 + 1) (A1 263 13)) → P (.inl (some (.int (nI 1))), (G, (mI A14, j), cc))))))))))))) : EvP X (d + 3) gvm_237 0 (gv_enter [.ref 263] 2) [] (G, (mI A, j), cc) P :=
  (pv_aload_n rfl rfl   (match (⟨(lx A (ltE (A 269) (A 263 11) (skB (A 269) (A 263 11) (A 263 10))) (skB (A 269) (A 263 11) (A 263 10))), rfl⟩ : ∃ Z : Nat → Nat → Nat, Z = (lx A (ltE (A 269) (A 263 11) (skB (A 269) (A 263 11) (A 263 10))) (skB (A 269) (A 263 11) (A 263 10)))) with | ⟨A1, q1⟩ => pv_virt rfl rfl rfl rfl rfl (oX12_k hp263) rfl rfl rfl (ev_eqM q1 (r_letters (A := A) hp263 H.1 H.2.1 H.2.2.1 )) (pv_aload_n rfl rfl   (pv_ldcS rfl   (pv_virt rfl rfl rfl rfl rfl (oX12_k hp263) rfl rfl rfl (r_isWord (q := 2) (A := A1) hp263 (H.2.2.2 A1 q1).1 (H.2.2.2 A1 q1).2.1 (H.2.2.2 A1 q1).2.2.1 ) (pv_if_eq_zo rfl  (fun c2 => (pv_aload_n rfl rfl   (pv_ldcS rfl   (pv_virt rfl rfl rfl rfl rfl (oX12_k hp263) rfl rfl rfl (r_isWord (q := 36) (A := A1) hp263 ((H.2.2.2 A1 q1).2.2.2.1 c2).1 ((H.2.2.2 A1 q1).2.2.2.1 c2).2.1 ((H.2.2.2 A1 q1).2.2.2.1 c2).2.2.1 ) (pv_if_eq_zo rfl  (fun c3 => (pv_aload_n rfl rfl   (pv_ldcS rfl   (pv_virt rfl rfl rfl rfl rfl (oX12_k hp263) rfl rfl rfl (r_isWord (q := 37) (A := A1) hp263 (((H.2.2.2 A1 q1).2.2.2.1 c2).2.2.2.1 c3).1 (((H.2.2.2 A1 q1).2.2.2.1 c2).2.2.2.1 c3).2.1 (((H.2.2.2 A1 q1).2.2.2.1 c2).2.2.2.1 c3).2.2.1 ) (pv_if_eq_zo rfl  (fun c4 => (pn_iconst (u := 4294967295) rfl (by decide)   (pv_istore_n rfl rfl   (pv_iload_n rfl rfl   (pn_if_lt rfl (by decide) (fun _ => (pv_aload_n rfl rfl   (pv_aload_n rfl rfl   (pn_getI rfl rfl (oX12_k hp263) rfl   (pn_putI rfl rfl (oX12_k hp263)   (pv_iload_n rfl rfl   (pn_if_lt rfl (by decide) (fun _ => (pn_iconst rfl rfl   (pv_iretz rfl rfl (Or.inl rfl) ((((H.2.2.2 A1 q1).2.2.2.1 c2).2.2.2.1 c3).2.2.2.1 c4)))) (fun e => absurd e (by decide))))))))) (fun e => absurd e (by decide))))))) (fun c4 => (pn_bipush rfl rfl   (pv_goto rfl (pv_istore_n rfl rfl   (pv_iload_n rfl rfl   (pn_if_lt rfl (by decide) (fun e => absurd e (by decide)) (fun _ => (pv_aload_n rfl rfl   (pv_iload_n rfl rfl   (pn_iconst rfl rfl   (match (⟨(ry A1 (emC (A1 264) (A1 263 16) 9 0) (A1 263 10) (A1 263 12) (A1 263 16 + 1) (A1 263 13)), rfl⟩ : ∃ Z : Nat → Nat → Nat, Z = (ry A1 (emC (A1 264) (A1 263 16) 9 0) (A1 263 10) (A1 263 12) (A1 263 16 + 1) (A1 263 13))) with | ⟨A8, q8⟩ => pv_virt rfl rfl rfl rfl rfl (oX12_k hp263) rfl rfl rfl (ev_eqM q8 (r_emits (code := 9) (n := 0) (A := A1) hp263 ((((H.2.2.2 A1 q1).2.2.2.1 c2).2.2.2.1 c3).2.2.2.2 c4).1 )) (pv_goto rfl (pv_iload_n rfl rfl   (pn_if_lt rfl (by decide) (fun e => absurd e (by decide)) (fun _ => (pn_iconst rfl rfl   (pv_goto rfl (pv_iretz rfl rfl (Or.inr rfl) (((((H.2.2.2 A1 q1).2.2.2.1 c2).2.2.2.1 c3).2.2.2.2 c4).2 A8 q8)))))))))))))))))))))))) (fun c3 => (pn_bipush rfl rfl   (pv_goto rfl (pv_istore_n rfl rfl   (pv_iload_n rfl rfl   (pn_if_lt rfl (by decide) (fun e => absurd e (by decide)) (fun _ => (pv_aload_n rfl rfl   (pv_iload_n rfl rfl   (pn_iconst rfl rfl   (match (⟨(ry A1 (emC (A1 264) (A1 263 16) 8 0) (A1 263 10) (A1 263 12) (A1 263 16 + 1) (A1 263 13)), rfl⟩ : ∃ Z : Nat → Nat → Nat, Z = (ry A1 (emC (A1 264) (A1 263 16) 8 0) (A1 263 10) (A1 263 12) (A1 263 16 + 1) (A1 263 13))) with | ⟨A11, q11⟩ => pv_virt rfl rfl rfl rfl rfl (oX12_k hp263) rfl rfl rfl (ev_eqM q11 (r_emits (code := 8) (n := 0) (A := A1) hp263 (((H.2.2.2 A1 q1).2.2.2.1 c2).2.2.2.2 c3).1 )) (pv_goto rfl (pv_iload_n rfl rfl   (pn_if_lt rfl (by decide) (fun e => absurd e (by decide)) (fun _ => (pn_iconst rfl rfl   (pv_goto rfl (pv_iretz rfl rfl (Or.inr rfl) ((((H.2.2.2 A1 q1).2.2.2.1 c2).2.2.2.2 c3).2 A11 q11)))))))))))))))))))))))) (fun c2 => (pn_bipush rfl rfl   (pv_goto rfl (pv_istore_n rfl rfl   (pv_iload_n rfl rfl   (pn_if_lt rfl (by decide) (fun e => absurd e (by decide)) (fun _ => (pv_aload_n rfl rfl   (pv_iload_n rfl rfl   (pn_iconst rfl rfl   (match (⟨(ry A1 (emC (A1 264) (A1 263 16) 7 0) (A1 263 10) (A1 263 12) (A1 263 16 + 1) (A1 263 13)), rfl⟩ : ∃ Z : Nat → Nat → Nat, Z = (ry A1 (emC (A1 264) (A1 263 16) 7 0) (A1 263 10) (A1 263 12) (A1 263 16 + 1) (A1 263 13))) with | ⟨A14, q14⟩ => pv_virt rfl rfl rfl rfl rfl (oX12_k hp263) rfl rfl rfl (ev_eqM q14 (r_emits (code := 7) (n := 0) (A := A1) hp263 ((H.2.2.2 A1 q1).2.2.2.2 c2).1 )) (pv_goto rfl (pv_iload_n rfl rfl   (pn_if_lt rfl (by decide) (fun e => absurd e (by decide)) (fun _ => (pn_iconst rfl rfl   (pv_goto rfl (pv_iretz rfl rfl (Or.inr rfl) (((H.2.2.2 A1 q1).2.2.2.2 c2).2 A14 q14)))))))))))))))))))))))))
theorem r_readTag_p {X : gv_X} {d : Nat} {G : gv_Sh} {A : Nat → Nat → Nat} {j : Nat → Nat → Int64} {cc : gv_Rs} {P : gv_O × gv_S → Prop}  (hp263 : oX12 G 263) (p0 : A 263 11 ≤ 400) (p1 : A 263 10 ≤ A 263 11) (p2 : ∀ i, i < 400 → A 269 i < 4294967296) (p3 : A 263 16 + 1 ≤ A 263 10) (hP : ∀ A1 : Nat → Nat → Nat, ((tgR (A 269) (skB (A 269) (A 263 11) (A 263 10)) (ltE (A 269) (A 263 11) (skB (A 269) (A 263 11) (A 263 10)))) = 4294967295 → A1 = ry A (A 264) (skB (A 269) (A 263 11) (A 263 10)) (skB (A 269) (A 263 11) (A 263 10)) (A 263 16) (A 263 13)) ∧ (¬ (tgR (A 269) (skB (A 269) (A 263 11) (A 263 10)) (ltE (A 269) (A 263 11) (skB (A 269) (A 263 11) (A 263 10)))) = 4294967295 → A1 = ry A (emC (A 264) (A 263 16) (tgR (A 269) (skB (A 269) (A 263 11) (A 263 10)) (ltE (A 269) (A 263 11) (skB (A 269) (A 263 11) (A 263 10)))) 0) (ltE (A 269) (A 263 11) (skB (A 269) (A 263 11) (A 263 10))) (skB (A 269) (A 263 11) (A 263 10)) (A 263 16 + 1) (A 263 13)) → P (.inl (some (.int (zo (decide (¬ (tgR (A 269) (skB (A 269) (A 263 11) (A 263 10)) (ltE (A 269) (A 263 11) (skB (A 269) (A 263 11) (A 263 10)))) = 4294967295))))), (G, (mI A1, j), cc))) : EvP X (d + 3) gvm_237 0 (gv_enter [.ref 263] 2) [] (G, (mI A, j), cc) P := by
  have b1 := skB_b (t := (A 269)) (E := (A 263 11)) p1
  have b2 := ltE_b (t := (A 269)) (E := (A 263 11)) b1.2
  refine w237 hp263 ⟨p0, p1, p2, fun A1 q1 => ?_⟩
  rw [lx_ry] at q1
  have a10 : A1 263 10 = (ltE (A 269) (A 263 11) (skB (A 269) (A 263 11) (A 263 10))) := by rw [q1, ry_p]
  have a12 : A1 263 12 = (skB (A 269) (A 263 11) (A 263 10)) := by rw [q1, ry_b]
  have a16 : A1 263 16 = A 263 16 := by rw [q1, ry_n]
  have a13 : A1 263 13 = A 263 13 := by rw [q1, ry_d]
  have a9 : A1 269 = (A 269) := by rw [q1, ry_9]
  have a4 : A1 264 = A 264 := by rw [q1, ry_4]
  simp only [a9, a10, a12, a4, a16, a13]
  refine ⟨by omega, p2, by omega, fun c2 => ⟨by omega, p2, by omega, fun c3 => ⟨by omega, p2, by omega, fun c4 => ?_, fun c4 => ⟨by omega, fun B q => ?_⟩⟩, fun c3 => ⟨by omega, fun B q => ?_⟩⟩, fun c2 => ⟨by omega, fun B q => ?_⟩⟩
  · have e : (tgR (A 269) (skB (A 269) (A 263 11) (A 263 10)) (ltE (A 269) (A 263 11) (skB (A 269) (A 263 11) (A 263 10)))) = 4294967295 := by unfold tgR; simp only [c2, c3, c4, Bool.false_eq_true, if_false]
    refine qz0 (hP _ ⟨fun _ => ?_, fun z => absurd e z⟩) (decide_eq_false (fun z => z e))
    rw [q1, ry_10]
  · have e : (tgR (A 269) (skB (A 269) (A 263 11) (A 263 10)) (ltE (A 269) (A 263 11) (skB (A 269) (A 263 11) (A 263 10)))) = 9 := by unfold tgR; simp only [c2, c3, c4, Bool.false_eq_true, if_false, if_true]
    rw [q1, ry_ry] at q
    exact qz1 (hP B ⟨fun z => by rw [e] at z; omega, fun _ => by rw [e]; exact q⟩) (decide_eq_true (by rw [e]; decide))
  · have e : (tgR (A 269) (skB (A 269) (A 263 11) (A 263 10)) (ltE (A 269) (A 263 11) (skB (A 269) (A 263 11) (A 263 10)))) = 8 := by unfold tgR; simp only [c2, c3, Bool.false_eq_true, if_false, if_true]
    rw [q1, ry_ry] at q
    exact qz1 (hP B ⟨fun z => by rw [e] at z; omega, fun _ => by rw [e]; exact q⟩) (decide_eq_true (by rw [e]; decide))
  · have e : (tgR (A 269) (skB (A 269) (A 263 11) (A 263 10)) (ltE (A 269) (A 263 11) (skB (A 269) (A 263 11) (A 263 10)))) = 7 := by unfold tgR; simp only [c2, if_true]
    rw [q1, ry_ry] at q
    exact qz1 (hP B ⟨fun z => by rw [e] at z; omega, fun _ => by rw [e]; exact q⟩) (decide_eq_true (by rw [e]; decide))
theorem r_readTag {X : gv_X} {d : Nat} {G : gv_Sh} {A : Nat → Nat → Nat} {j : Nat → Nat → Int64} {cc : gv_Rs}  (hp263 : oX12 G 263) (p0 : A 263 11 ≤ 400) (p1 : A 263 10 ≤ A 263 11) (p2 : ∀ i, i < 400 → A 269 i < 4294967296) (p3 : A 263 16 + 1 ≤ A 263 10) : ∃ A1 : Nat → Nat → Nat, Ev X (d + 3) gvm_237 0 (gv_enter [.ref 263] 2) [] (G, (mI A, j), cc) (.inl (some (.int (zo (decide (¬ (tgR (A 269) (skB (A 269) (A 263 11) (A 263 10)) (ltE (A 269) (A 263 11) (skB (A 269) (A 263 11) (A 263 10)))) = 4294967295))))), (G, (mI A1, j), cc)) ∧ ((tgR (A 269) (skB (A 269) (A 263 11) (A 263 10)) (ltE (A 269) (A 263 11) (skB (A 269) (A 263 11) (A 263 10)))) = 4294967295 → A1 = ry A (A 264) (skB (A 269) (A 263 11) (A 263 10)) (skB (A 269) (A 263 11) (A 263 10)) (A 263 16) (A 263 13)) ∧ (¬ (tgR (A 269) (skB (A 269) (A 263 11) (A 263 10)) (ltE (A 269) (A 263 11) (skB (A 269) (A 263 11) (A 263 10)))) = 4294967295 → A1 = ry A (emC (A 264) (A 263 16) (tgR (A 269) (skB (A 269) (A 263 11) (A 263 10)) (ltE (A 269) (A 263 11) (skB (A 269) (A 263 11) (A 263 10)))) 0) (ltE (A 269) (A 263 11) (skB (A 269) (A 263 11) (A 263 10))) (skB (A 269) (A 263 11) (A 263 10)) (A 263 16 + 1) (A 263 13)) := by
  obtain ⟨_, h, A1, rfl, hp⟩ := r_readTag_p (X := X) (d := d) (G := G) (A := A) (j := j) (cc := cc)  (P := fun r => ∃ A1 : Nat → Nat → Nat, r = (.inl (some (.int (zo (decide (¬ (tgR (A 269) (skB (A 269) (A 263 11) (A 263 10)) (ltE (A 269) (A 263 11) (skB (A 269) (A 263 11) (A 263 10)))) = 4294967295))))), (G, (mI A1, j), cc)) ∧ ((tgR (A 269) (skB (A 269) (A 263 11) (A 263 10)) (ltE (A 269) (A 263 11) (skB (A 269) (A 263 11) (A 263 10)))) = 4294967295 → A1 = ry A (A 264) (skB (A 269) (A 263 11) (A 263 10)) (skB (A 269) (A 263 11) (A 263 10)) (A 263 16) (A 263 13)) ∧ (¬ (tgR (A 269) (skB (A 269) (A 263 11) (A 263 10)) (ltE (A 269) (A 263 11) (skB (A 269) (A 263 11) (A 263 10)))) = 4294967295 → A1 = ry A (emC (A 264) (A 263 16) (tgR (A 269) (skB (A 269) (A 263 11) (A 263 10)) (ltE (A 269) (A 263 11) (skB (A 269) (A 263 11) (A 263 10)))) 0) (ltE (A 269) (A 263 11) (skB (A 269) (A 263 11) (A 263 10))) (skB (A 269) (A 263 11) (A 263 10)) (A 263 16 + 1) (A 263 13))) hp263 p0 p1 p2 p3 (fun A1 h => ⟨A1, rfl, h⟩)
  exact ⟨A1, h, hp⟩
