/-! the class: store, ticks, seed, taking back -/
def spTk (R : Nat → Nat) (n : Nat) : Nat × Nat := if 1 ≤ n ∧ n ≤ 60 then (0, gsN (tbF R) false n R) else (1, 0)
/-- the same ops, but for what is guarded and patched -/
def eqV (R S : Nat → Nat) : Prop := ∀ i, i = 0 ∨ i = 2 ∨ (30 ≤ i ∧ i < 102 ∧ (i - 30) % 9 ≠ 1 ∧ (i - 30) % 9 ≠ 2) → S i = R i
theorem knI_V {A : Nat → Nat → Nat} {R S : Nat → Nat} (w : okW R) (h : knI A R) (e : eqV R S) : knI A S := fun g p x a b c => by
  rcases h g p x a b c with z | ⟨z, y⟩
  · exact Or.inl z
  · refine Or.inr ⟨by rw [e 0 (by omega)]; exact z, ?_⟩
    rw [y]
    have hl := (okW_o w b).1
    refine (wit_congr ⟨?_, ?_, fun k hk => ⟨?_, ?_⟩⟩ x).symm
    · show seR S _ g _ = seR R _ g _
      unfold seR; rw [if_neg (by omega), if_neg (by omega)]; exact e _ (by omega)
    · show seR S _ g _ = seR R _ g _
      unfold seR; rw [if_pos rfl, if_pos rfl]
    all_goals
      have hk : k < seR S (30 + 9 * p + 1) g (30 + 9 * p + 0) := hk
      unfold seR at hk
      rw [if_neg (by omega), e _ (by omega)] at hk
      show seR S _ g _ = seR R _ g _
      unfold seR; rw [if_neg (by omega), if_neg (by omega)]; exact e _ (by omega)
theorem smI_no {A : Nat → Nat → Nat} {R : Nat → Nat} (h : ∀ k, k < 264 → A 61 k = 4294967294) : smI A R := fun so p u a b c => Or.inl (h _ (by omega))
theorem c_store_p {X : gv_X} {d : Nat} {G : gv_Sh} {A : Nat → Nat → Nat} {j : Nat → Nat → Int64} {cc : gv_Rs} {P : gv_O × gv_S → Prop} {c : Nat} {n : Nat} {R : Nat → Nat} {Q : Nat → Nat → Nat} (hp0 : oX11 G 0) (p0 : cK A R) (p1 : hI A Q) (p2 : c < 4294967296) (p3 : n < 4294967296) (hP : ∀ A1 : Nat → Nat → Nat, (acT (spSt R c n).1 A A1 R (boR (seR R (22 + c) n)) Q) ∧ (frJ A A1) → P (oc (fun c => if c = 1 then 1 else 0) (spSt R c n).1 (spSt R c n).2 (G, (mI A1, j), cc))) : EvP X (d + 3) gvm_136 0 (gv_enter [.ref 0, .int (nI c), .int (nI n)] 4) [] (G, (mI A, j), cc) P := by
  have ok : ∀ B x, acT (spSt R c n).1 A B R (boR (seR R (22 + c) n)) Q ∧ frJ A B → spSt R c n = (0, x) → P (.inl (some (.int (nI x))), (G, (mI B, j), cc)) := fun B x h1 h3 => by
    have := hP B h1
    rw [h3] at this
    exact this
  have no1 : ∀ B, acT (spSt R c n).1 A B R (boR (seR R (22 + c) n)) Q ∧ frJ A B → spSt R c n = (1, 0) → P (.inr 1, gv_ex (G, (mI B, j), cc)) := fun B h1 h3 => by
    have := hP B h1
    rw [h3] at this
    exact this
  have no2 : ∀ B, acT (spSt R c n).1 A B R (boR (seR R (22 + c) n)) Q ∧ frJ A B → spSt R c n = (2, 0) → P (.inr 0, gv_ex (G, (mI B, j), cc)) := fun B h1 h3 => by
    have := hP B h1
    rw [h3] at this
    exact this
  refine w136 (R := R) (Q := Q) hp0 ⟨p2, fun c1 => ⟨p3, fun c2 => ⟨p0.1, p0.2.1, p1, fun B h1 => ⟨by omega, by omega, ?_⟩⟩, fun c2 => ?_⟩, fun c1 => ?_⟩
  · have sp0 : spSt R c n = (0, R (22 + c)) := by unfold spSt; rw [if_neg (by omega), if_neg (by omega)]
    have oS : okW (seR R (22 + c) n) := okW_v p0.1 (Or.inr (Or.inr (Or.inr (Or.inr (Or.inr (Or.inl ⟨by omega, by omega, c2.2⟩))))))
    have rB : rW B 2 R := rW_fr p0.2.1 (fun q a b => h1.2.2 q (by omega) (by omega))
    have e4 : B 10 c = R (22 + c) := rB.2.2.1 c c1
    rw [Nat.mod_eq_of_lt c1, e4]
    have rS : rW (gu B 10 c n) 2 (seR R (22 + c) n) := rW_c rB p0.1 c1 (fun q hq => gu_row hq) (fun k => by
      by_cases z : k = c
      · rw [z, gu_hit, if_pos rfl]
      · rw [gu_k z rfl, if_neg z])
    refine w136_49 (R := R) hp0 ⟨oS, rS, fun C h2 => ?_⟩
    have fC : ∀ q, ¬ (2 ≤ q ∧ q ≤ 16) → C q = B q := fun q a => (h2.2 q (by omega) (by omega) (by omega) (by omega)).trans (gu_row (by omega))
    refine ok C _ ⟨⟨fun _ => ⟨cK_ac p0 (okW_bo oS) h2.1 (eqS_se (by omega)) (fun q a b => (fC q (by omega)).trans (h1.2.2 q (by omega) (by omega))), hI_of h1.1 (fun q a => fC q (by omega)), ?_⟩, fun z => absurd (by rw [sp0]) z⟩, fun q a b c e => (fC q (by omega)).trans (h1.2.2 q c (by omega))⟩ sp0
    rw [fC 76 (by omega)]; exact h1.2.1
  · have sp1 : spSt R c n = (2, 0) := by unfold spSt; rw [if_neg (by omega), if_pos (by omega)]
    exact no2 A ⟨⟨fun z => absurd z (by rw [sp1]; decide), fun _ => rfl⟩, frJ_rf A⟩ sp1
  · have sp1 : spSt R c n = (1, 0) := by unfold spSt; rw [if_pos (by omega)]
    exact no1 A ⟨⟨fun z => absurd z (by rw [sp1]; decide), fun _ => rfl⟩, frJ_rf A⟩ sp1
theorem w186 {X : gv_X} {d : Nat} {G : gv_Sh} {A : Nat → Nat → Nat} {j : Nat → Nat → Int64} {cc : gv_Rs} {P : gv_O × gv_S → Prop} {n : Nat} (hp0 : oX11 G 0) (H : P (.inl (some (.int (nI (A 2 10)))), (G, (mI (gu A 2 10 n), j), cc))) : EvP X (d + 0) gvm_186 0 (gv_enter [.ref 0, .int (nI n)] 3) [] (G, (mI A, j), cc) P :=
  (pv_aload_n rfl rfl   (pv_getP rfl rfl (oX11_k hp0) (oX11_3 hp0)   (pn_getI rfl rfl (oX10_k (oX11_3c hp0)) rfl   (pv_istore_n rfl rfl   (pv_aload_n rfl rfl   (pv_getP rfl rfl (oX11_k hp0) (oX11_3 hp0)   (pv_iload_n rfl rfl   (pn_putI rfl rfl (oX10_k (oX11_3c hp0))   (pv_iload_n rfl rfl   (pv_ireti rfl rfl H))))))))))
theorem c_seed_p {X : gv_X} {d : Nat} {G : gv_Sh} {A : Nat → Nat → Nat} {j : Nat → Nat → Int64} {cc : gv_Rs} {P : gv_O × gv_S → Prop} {n : Nat} {R : Nat → Nat} (hp0 : oX11 G 0) (p0 : cK A R) (p1 : n < 4294967296) (hP : ∀ A1 : Nat → Nat → Nat, (cK A1 (seR R 11 n)) ∧ (∀ q, q ≠ 2 → A1 q = A q) → P (.inl (some (.int (nI (R 11)))), (G, (mI A1, j), cc))) : EvP X (d + 0) gvm_186 0 (gv_enter [.ref 0, .int (nI n)] 3) [] (G, (mI A, j), cc) P := by
  have e : A 2 10 = R 11 := p0.2.1.2.2.2.1.2.2.2.2.2.2.1
  refine w186 hp0 ?_
  rw [e]
  refine hP _ ⟨cK_ac p0 (okW_sdS p0.1 p1).1 ?_ (eqX_S (okW_sdS p0.1 p1).2) (fun q a b => gu_row (by omega)), fun q hq => gu_row hq⟩
  obtain ⟨n1, n2, n3, n4, n5, n6, n7, n8⟩ := p0.2.1.2.2.2.1
  exact rW_n p0.2.1 p0.1 (fun i hi => seR_ne (by omega)) ⟨n1, n2, n3, n4, n5, n6, rfl, n8⟩ (fun q hq => gu_row hq) rfl
theorem c_seed {X : gv_X} {d : Nat} {G : gv_Sh} {A : Nat → Nat → Nat} {j : Nat → Nat → Int64} {cc : gv_Rs} {n : Nat} {R : Nat → Nat} (hp0 : oX11 G 0) (p0 : cK A R) (p1 : n < 4294967296) : ∃ A1 : Nat → Nat → Nat, Ev X (d + 0) gvm_186 0 (gv_enter [.ref 0, .int (nI n)] 3) [] (G, (mI A, j), cc) (.inl (some (.int (nI (R 11)))), (G, (mI A1, j), cc)) ∧ (cK A1 (seR R 11 n)) ∧ (∀ q, q ≠ 2 → A1 q = A q) := by
  obtain ⟨_, h, A1, rfl, hp⟩ := c_seed_p (X := X) (d := d) (G := G) (A := A) (j := j) (cc := cc) (n := n) (R := R) (P := fun r => ∃ A1 : Nat → Nat → Nat, r = (.inl (some (.int (nI (R 11)))), (G, (mI A1, j), cc)) ∧ (cK A1 (seR R 11 n)) ∧ (∀ q, q ≠ 2 → A1 q = A q)) hp0 p0 p1 (fun A1 h => ⟨A1, rfl, h⟩)
  exact ⟨A1, h, hp⟩
theorem w130 {X : gv_X} {d : Nat} {G : gv_Sh} {A : Nat → Nat → Nat} {j : Nat → Nat → Int64} {cc : gv_Rs} {P : gv_O × gv_S → Prop} {n : Nat} {R : Nat → Nat} {Q : Nat → Nat → Nat} (hp0 : oX11 G 0) (H : (n < 4294967296) ∧ ((((1 ≤ n ∧ n ≤ 60)) → (okW R) ∧ ((rO A 3 R) ∧ ((3 + 6 ≤ 54) ∧ ((knI A R) ∧ ((∀ A1v2 : Nat → Nat → Nat, ((stT A1v2 R) ∧ (knI A1v2 R) ∧ (frZ A A1v2)) → (okW R) ∧ ((rW A1v2 2 R) ∧ ((hI A1v2 Q) ∧ ((∀ A1v3 : Nat → Nat → Nat, ((hI A1v3 (hcN R Q)) ∧ (A1v3 76 1 = min 12 (A1v2 76 1 + 1)) ∧ (∀ q, q ≠ 76 → (q < 78 ∨ 257 < q) → A1v3 q = A1v2 q)) → (okW R) ∧ ((rW A1v3 2 R) ∧ ((lg A1v3 R) ∧ ((2 + 15 ≤ 47) ∧ ((n ≤ 60) ∧ ((∀ A1v4 : Nat → Nat → Nat, ((rW A1v4 2 (gsR (tbF R) false n R)) ∧ (lg A1v4 R) ∧ (frW A1v3 A1v4 2)) → P (.inl (some (.int (nI (gsN (tbF R) false n R)))), (G, (mI A1v4, j), cc)))))))))))))))))) ∧ ((¬ (1 ≤ n ∧ n ≤ 60)) → P (.inr 0, gv_ex (G, (mI A, j), cc))))) : EvP X (d + 7) gvm_130 0 (gv_enter [.ref 0, .int (nI n)] 2) [] (G, (mI A, j), cc) P :=
  (pv_aload_n rfl rfl   (pv_iload_n rfl rfl   (pn_iconst rfl rfl   (pn_bipush rfl rfl   (Or.elim (Decidable.em ((1 ≤ n ∧ n ≤ 60))) (fun c1 => pv_virt rfl rfl rfl rfl rfl (oX11_k hp0) rfl rfl rfl (c_needNumber (n := n) (lo := 1) (hi := 60) (A := A) hp0 H.1 (by decide) (by decide) c1) (pv_aload_n rfl rfl   (pv_getP rfl rfl (oX11_k hp0) (oX11_7 hp0)   (pv_getP rfl rfl (oX4_k (oX11_7c hp0)) (oX4_1 (oX11_7c hp0))   (pv_aload_n rfl rfl   (pv_getP rfl rfl (oX11_k hp0) (oX11_3 hp0)   (pv_getP rfl rfl (oX10_k (oX11_3c hp0)) (oX10_0 (oX11_3c hp0))   (match (c_learn (R := R) (A := A) (X := X) (d := d + 1) (G := G) (j := j) (cc := cc) (oX4_1c (oX11_7c hp0)) (oX10_0c (oX11_3c hp0)) (H.2.1 c1).1 (H.2.1 c1).2.1 (H.2.1 c1).2.2.1 (H.2.1 c1).2.2.2.1 ) with | ⟨A1v2, e4x22, h2⟩ => pv_virt rfl rfl rfl rfl rfl (oX9_k (oX4_1c (oX11_7c hp0))) rfl rfl rfl e4x22 (pv_aload_n rfl rfl   (pv_getP rfl rfl (oX11_k hp0) (oX11_10 hp0)   (pv_aload_n rfl rfl   (pv_getP rfl rfl (oX11_k hp0) (oX11_3 hp0)   (match (c_remember (R := R) (Q := Q) (A := A1v2) (X := X) (d := d + 4) (G := G) (j := j) (cc := cc) (oX11_10c hp0) (oX11_3c hp0) ((H.2.1 c1).2.2.2.2 A1v2 h2).1 ((H.2.1 c1).2.2.2.2 A1v2 h2).2.1 ((H.2.1 c1).2.2.2.2 A1v2 h2).2.2.1 ) with | ⟨A1v3, e4x33, h3⟩ => pv_virt rfl rfl rfl rfl rfl (oX2_k (oX11_10c hp0)) rfl rfl rfl e4x33 (pv_aload_n rfl rfl   (pv_getP rfl rfl (oX11_k hp0) (oX11_3 hp0)   (pv_iload_n rfl rfl   (pv_aload_n rfl rfl   (pv_getP rfl rfl (oX11_k hp0) (oX11_7 hp0)   (match (c_tickMany (n := n) (R := R) (A := A1v3) (X := X) (d := d + 0) (G := G) (j := j) (cc := cc) (oX11_3c hp0) (oX11_7c hp0) (((H.2.1 c1).2.2.2.2 A1v2 h2).2.2.2 A1v3 h3).1 (((H.2.1 c1).2.2.2.2 A1v2 h2).2.2.2 A1v3 h3).2.1 (((H.2.1 c1).2.2.2.2 A1v2 h2).2.2.2 A1v3 h3).2.2.1 (((H.2.1 c1).2.2.2.2 A1v2 h2).2.2.2 A1v3 h3).2.2.2.1 (((H.2.1 c1).2.2.2.2 A1v2 h2).2.2.2 A1v3 h3).2.2.2.2.1 ) with | ⟨A1v4, e4x45, h4⟩ => pv_virt rfl rfl rfl rfl rfl (oX10_k (oX11_3c hp0)) rfl rfl rfl e4x45 (pv_ireti rfl rfl ((((H.2.1 c1).2.2.2.2 A1v2 h2).2.2.2 A1v3 h3).2.2.2.2.2 A1v4 h4))))))))))))))))))))) (fun c1 => pv_virtT rfl rfl rfl rfl rfl (oX11_k hp0) rfl rfl rfl rfl (c_needNumber_x (n := n) (lo := 1) (hi := 60) (A := A) hp0 H.1 (by decide) (by decide) c1) (H.2.2 c1)))))))
theorem c_ticks_p {X : gv_X} {d : Nat} {G : gv_Sh} {A : Nat → Nat → Nat} {j : Nat → Nat → Int64} {cc : gv_Rs} {P : gv_O × gv_S → Prop} {n : Nat} {R : Nat → Nat} {Q : Nat → Nat → Nat} (hp0 : oX11 G 0) (p0 : cK A R) (p1 : hI A Q) (p2 : n < 4294967296) (hP : ∀ A1 : Nat → Nat → Nat, (acT (spTk R n).1 A A1 R (gsR (tbF R) false n R) Q) ∧ (frJ A A1) → P (oc (fun _ => 0) (spTk R n).1 (spTk R n).2 (G, (mI A1, j), cc))) : EvP X (d + 7) gvm_130 0 (gv_enter [.ref 0, .int (nI n)] 2) [] (G, (mI A, j), cc) P := by
  have ok : ∀ B x, acT (spTk R n).1 A B R (gsR (tbF R) false n R) Q ∧ frJ A B → spTk R n = (0, x) → P (.inl (some (.int (nI x))), (G, (mI B, j), cc)) := fun B x h1 h3 => by
    have := hP B h1
    rw [h3] at this
    exact this
  have no1 : ∀ B, acT (spTk R n).1 A B R (gsR (tbF R) false n R) Q ∧ frJ A B → spTk R n = (1, 0) → P (.inr 0, gv_ex (G, (mI B, j), cc)) := fun B h1 h3 => by
    have := hP B h1
    rw [h3] at this
    exact this
  refine w130 (R := R) (Q := Q) hp0 ⟨p2, fun c1 => ⟨p0.1, p0.2.1.1, by decide, p0.2.2.1, fun B h1 => ?_⟩, fun c1 => ?_⟩
  · have sp0 : spTk R n = (0, gsN (tbF R) false n R) := if_pos c1
    obtain ⟨hQ, hf⟩ := cK_Z p0 h1.1 h1.2.1 h1.2.2
    have hB : hI B Q := hI_of p1 (fun q a => hf q (by omega) (by omega) (by omega))
    refine ⟨p0.1, hQ.2.1, hB, fun C h2 => ?_⟩
    have rC : rW C 2 R := rW_fr hQ.2.1 (fun q a b => h2.2.2 q (by omega) (by omega))
    refine ⟨p0.1, rC, lg_of hQ.2.2.2 (fun q hq => h2.2.2 q (by omega) (by omega)), by decide, c1.2, fun D h3 => ?_⟩
    obtain ⟨oS, xS⟩ := gs_X p0.1 (tbF R) false n
    have lS := lg_X p0.1 h3.2.1 xS
    have f76 : B 76 = A 76 := hf 76 (by omega) (by omega) (by omega)
    refine ok D _ ⟨⟨fun _ => ⟨⟨oS, h3.1, knI_of (knI_S p0.1 hQ.2.2.1 (eqX_S xS)) ((h3.2.2 55 (by omega) (by omega)).trans (h2.2.2 55 (by omega) (by omega))), lS.1, lS.2.1, lS.2.2.2⟩, hI_of h2.1 (fun q a => h3.2.2 q (by omega) (by omega)), ?_⟩, fun z => absurd (by rw [sp0]) z⟩, fun q a b c e => ?_⟩ sp0
    · rw [h3.2.2 76 (by omega) (by omega), h2.2.1, f76]
    · rw [h3.2.2 q (by omega) (by omega), h2.2.2 q c (by omega)]
      exact h1.2.2 q (by omega)
  · have sp1 : spTk R n = (1, 0) := if_neg c1
    exact no1 A ⟨⟨fun z => absurd z (by rw [sp1]; decide), fun _ => rfl⟩, frJ_rf A⟩ sp1
theorem w23 {X : gv_X} {d : Nat} {G : gv_Sh} {A : Nat → Nat → Nat} {j : Nat → Nat → Int64} {cc : gv_Rs} {P : gv_O × gv_S → Prop} {Q : Nat → Nat → Nat} (hp76 : oX2 G 76) (hp2 : oX10 G 2) (H : ((A 76 1) < 4294967296) ∧ (((0 < (A 76 1) ∧ (A 76 1) < 2147483648) → (12 = 60 ∨ 12 = 12) ∧ (((((A 76 2) + 4294967296 - 1) % 4294967296) < 12 ∨ (4294967296 ≤ (((A 76 2) + 4294967296 - 1) % 4294967296) + 12 ∧ (((A 76 2) + 4294967296 - 1) % 4294967296) < 4294967296)) ∧ (((fmN (((A 76 2) + 4294967296 - 1) % 4294967296) 12) < 12) ∧ ((okW (Q 0)) ∧ ((rW (gu (gu A 76 1 (((A 76 1) + 4294967296 - 1) % 4294967296)) 76 2 (fmN (((A 76 2) + 4294967296 - 1) % 4294967296) 12)) (hq (fmN (((A 76 2) + 4294967296 - 1) % 4294967296) 12)) (Q 0)) ∧ ((2 + 15 ≤ (hq (fmN (((A 76 2) + 4294967296 - 1) % 4294967296) 12)) ∨ (hq (fmN (((A 76 2) + 4294967296 - 1) % 4294967296) 12)) + 15 ≤ 2) ∧ ((∀ A1v2 : Nat → Nat → Nat, ((rW A1v2 2 (Q 0)) ∧ (∀ q, (q < 2 ∨ 2 + 14 < q) → A1v2 q = (gu (gu A 76 1 (((A 76 1) + 4294967296 - 1) % 4294967296)) 76 2 (fmN (((A 76 2) + 4294967296 - 1) % 4294967296) 12)) q)) → P (.inl (some (.int (nI 1))), (G, (mI A1v2, j), cc)))))))))) ∧ (((A 76 1) = 0 ∨ 2147483648 ≤ (A 76 1)) → P (.inl (some (.int (nI 0))), (G, (mI A, j), cc))))) : EvP X (d + 2) gvm_23 0 (gv_enter [.ref 76, .ref 2] 2) [] (G, (mI A, j), cc) P :=
  (pv_aload_n rfl rfl   (pn_getI rfl rfl (oX2_k hp76) rfl   (pn_if_gt rfl H.1 (fun c1 => (pv_aload_n rfl rfl   (pv_dup rfl rfl   (pn_getI rfl rfl (oX2_k hp76) rfl   (pn_iconst rfl rfl   (pn_isubw rfl (by decide)  (pn_putI rfl rfl (oX2_k hp76)   (pv_aload_n rfl rfl   (pv_aload_n rfl rfl   (pn_getI rfl rfl (oX2_k hp76) (gu_k (by decide) rfl)   (pn_iconst rfl rfl   (pn_isubw rfl (by decide)  (pn_bipush rfl rfl   (pv_stat rfl rfl rfl rfl rfl rfl rfl rfl (k_floorMod (x := (((A 76 2) + 4294967296 - 1) % 4294967296)) (y := 12) (A := (gu A 76 1 (((A 76 1) + 4294967296 - 1) % 4294967296))) (H.2.1 c1).1 (H.2.1 c1).2.1 ) (pn_putI rfl rfl (oX2_k hp76)   (pv_aload_n rfl rfl   (pv_aload_n rfl rfl   (pv_getP rfl rfl (oX2_k hp76) (oX2_0 hp76)   (pv_aload_n rfl rfl   (pn_getI rfl rfl (oX2_k hp76) (gu_hit _ _ _ _)   (pn_aald rfl (oX2_0c hp76) (H.2.1 c1).2.2.1 (match (c_copyWorld (R := (Q 0)) (v := (hq (fmN (((A 76 2) + 4294967296 - 1) % 4294967296) 12))) (A := (gu (gu A 76 1 (((A 76 1) + 4294967296 - 1) % 4294967296)) 76 2 (fmN (((A 76 2) + 4294967296 - 1) % 4294967296) 12))) (X := X) (d := d + 0) (G := G) (j := j) (cc := cc) hp2 (oHq (oX2_0c hp76) (H.2.1 c1).2.2.1) (H.2.1 c1).2.2.2.1 (H.2.1 c1).2.2.2.2.1 (H.2.1 c1).2.2.2.2.2.1 ) with | ⟨A1v2, e2x44, h2⟩ => pv_virt rfl rfl rfl rfl rfl (oX10_k hp2) rfl rfl rfl e2x44 (pn_iconst rfl rfl   (pv_iretz rfl rfl (Or.inr rfl) ((H.2.1 c1).2.2.2.2.2.2 A1v2 h2))))))))))))))))))))))))) (fun c1 => (pn_iconst rfl rfl   (pv_iretz rfl rfl (Or.inl rfl) (H.2.2 c1)))))))
theorem c_takeBack_p {X : gv_X} {d : Nat} {G : gv_Sh} {A : Nat → Nat → Nat} {j : Nat → Nat → Int64} {cc : gv_Rs} {P : gv_O × gv_S → Prop} {Q : Nat → Nat → Nat} (hp76 : oX2 G 76) (hp2 : oX10 G 2) (p0 : hI A Q) (hP : ∀ A1 : Nat → Nat → Nat, ((A 76 1 = 0 → A1 = A)) ∧ ((¬ A 76 1 = 0 → rW A1 2 (Q 0) ∧ hI A1 (fun a => Q (a + 1)) ∧ A1 76 1 = A 76 1 - 1)) ∧ (∀ q, ¬ (2 ≤ q ∧ q ≤ 16) → q ≠ 76 → A1 q = A q) → P (.inl (some (.int (zo (!decide (A 76 1 = 0))))), (G, (mI A1, j), cc))) : EvP X (d + 2) gvm_23 0 (gv_enter [.ref 76, .ref 2] 2) [] (G, (mI A, j), cc) P := by
  obtain ⟨h1, h2, h3⟩ := p0
  have ef : fmN ((A 76 2 + 4294967296 - 1) % 4294967296) 12 = (A 76 2 + 11) % 12 := by unfold fmN; split <;> omega
  have h := w23 (X := X) (d := d) (G := G) (A := A) (j := j) (cc := cc) (P := P) (Q := Q) hp76 hp2
  rw [ef] at h
  refine h ⟨by omega, fun c1 => ⟨Or.inr rfl, by omega, by omega, (h3 0 (by omega)).1, ?_, by unfold hq; omega, fun C g => ?_⟩, fun c1 => qz0 (hP A ⟨fun _ => rfl, fun z => absurd (by omega) z, fun _ _ _ => rfl⟩) (by rw [decide_eq_true (show A 76 1 = 0 by omega)]; rfl)⟩
  · have r0 := (h3 0 (by omega)).2
    rw [show (A 76 2 + 11 - 0) % 12 = (A 76 2 + 11) % 12 by omega] at r0
    exact rW_fr r0 (fun q a b => by rw [gu_row (by unfold hq at *; omega), gu_row (by unfold hq at *; omega)])
  · have f76 := g.2 76 (by omega)
    have e1 : C 76 1 = A 76 1 - 1 := by rw [f76, gu_k (by decide) rfl, gu_hit]; omega
    have e2 : C 76 2 = (A 76 2 + 11) % 12 := by rw [f76, gu_hit]
    have fC : ∀ q, ¬ (2 ≤ q ∧ q ≤ 16) → q ≠ 76 → C q = A q := fun q a b => by rw [g.2 q (by omega), gu_row b, gu_row b]
    refine qz1 (hP C ⟨fun z => absurd z (by omega), fun _ => ⟨g.1, ⟨by omega, by omega, fun a ha => ?_⟩, e1⟩, fC⟩) (by rw [decide_eq_false (show ¬ A 76 1 = 0 by omega)]; rfl)
    rw [e1] at ha
    rw [e2, show ((A 76 2 + 11) % 12 + 11 - a) % 12 = (A 76 2 + 11 - (a + 1)) % 12 by omega]
    obtain ⟨o1, o2⟩ := h3 (a + 1) (by omega)
    exact ⟨o1, rW_fr o2 (fun q x y => fC q (by unfold hq at *; omega) (by unfold hq at *; omega))⟩
theorem c_takeBack {X : gv_X} {d : Nat} {G : gv_Sh} {A : Nat → Nat → Nat} {j : Nat → Nat → Int64} {cc : gv_Rs} {Q : Nat → Nat → Nat} (hp76 : oX2 G 76) (hp2 : oX10 G 2) (p0 : hI A Q) : ∃ A1 : Nat → Nat → Nat, Ev X (d + 2) gvm_23 0 (gv_enter [.ref 76, .ref 2] 2) [] (G, (mI A, j), cc) (.inl (some (.int (zo (!decide (A 76 1 = 0))))), (G, (mI A1, j), cc)) ∧ ((A 76 1 = 0 → A1 = A)) ∧ ((¬ A 76 1 = 0 → rW A1 2 (Q 0) ∧ hI A1 (fun a => Q (a + 1)) ∧ A1 76 1 = A 76 1 - 1)) ∧ (∀ q, ¬ (2 ≤ q ∧ q ≤ 16) → q ≠ 76 → A1 q = A q) := by
  obtain ⟨_, h, A1, rfl, hp⟩ := c_takeBack_p (X := X) (d := d) (G := G) (A := A) (j := j) (cc := cc) (Q := Q) (P := fun r => ∃ A1 : Nat → Nat → Nat, r = (.inl (some (.int (zo (!decide (A 76 1 = 0))))), (G, (mI A1, j), cc)) ∧ ((A 76 1 = 0 → A1 = A)) ∧ ((¬ A 76 1 = 0 → rW A1 2 (Q 0) ∧ hI A1 (fun a => Q (a + 1)) ∧ A1 76 1 = A 76 1 - 1)) ∧ (∀ q, ¬ (2 ≤ q ∧ q ≤ 16) → q ≠ 76 → A1 q = A q)) hp76 hp2 p0 (fun A1 h => ⟨A1, rfl, h⟩)
  exact ⟨A1, h, hp⟩
