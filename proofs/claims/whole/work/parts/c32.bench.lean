/-! the class: ops of a bench, a line -/
theorem adM_q {A : Nat → Nat → Nat} {k v q : Nat} (h : ¬ (19 ≤ q ∧ q ≤ 21)) : adM A 18 k v q = A q := by
  unfold adM
  split
  · rw [gu_row (by omega), gu_row (by omega), gu_row (by omega)]
  · rfl
theorem adM_c {A C : Nat → Nat → Nat} {k v q : Nat} (h : ∀ q, q ≠ 258 → C q = A q) (hq : q ≠ 258) : adM C 18 k v q = adM A 18 k v q := by
  unfold adM
  rw [show C 18 = A 18 from h 18 (by decide), show C (18 + 1) = A (18 + 1) from h 19 (by decide)]
  split
  · funext x
    simp only [gu, h q hq, h (18 + 1) (by decide), h (18 + 2) (by decide), h (18 + 3) (by decide)]
  · exact h q hq
theorem adO_q {A : Nat → Nat → Nat} {g : Bool} {q : Nat} (h : q ≠ 18) (h2 : q ≠ 19) (h3 : q ≠ 22) (h4 : q ≠ 23) : adO A 18 g q = A q := by
  unfold adO
  split
  · rw [gu_row (by omega), gu_row (by omega), gu_row (by omega), gu_row (by omega)]
  · rfl
theorem rO_ao {A B : Nat → Nat → Nat} {o : Nat} {R : Nat → Nat} {p : Nat} {g : Bool} (h : rO A o R) (w : okW R) (hp : R 0 = p) (h8 : p < 8) (b0 : B o 0 = p + 1) (b1 : ∀ x, B (o + 1) x = if x = p then 0 else A (o + 1) x) (b4 : ∀ x, B (o + 4) x = if x = p then g.toNat else A (o + 4) x) (b5 : ∀ x, B (o + 5) x = if x = p then 0 else A (o + 5) x) (b2 : B (o + 2) = A (o + 2)) (b3 : B (o + 3) = A (o + 3)) : rO B o (seR (seR (zpN R p 9) (30 + 9 * p + 1) g.toNat) 0 (p + 1)) := by
  have e : ∀ x y, x < p → y < 9 → seR (seR (zpN R p 9) (30 + 9 * p + 1) g.toNat) 0 (p + 1) (30 + 9 * x + y) = R (30 + 9 * x + y) := fun x y hx hy => by
    rw [seR_ne (by omega), seR_ne (by omega)]
    unfold zpN
    rw [if_neg (by omega)]
  have z : ∀ y, y < 9 → y ≠ 1 → seR (seR (zpN R p 9) (30 + 9 * p + 1) g.toNat) 0 (p + 1) (30 + 9 * p + y) = 0 := fun y hy h1 => by
    rw [seR_ne (by omega), seR_ne (by omega)]
    unfold zpN
    rw [if_pos (by omega)]
  refine ⟨by rw [seR_at]; exact b0, fun x hx => ?_, fun z hz => by rw [b2, b3]; exact h.2.2 z hz⟩
  rw [seR_at] at hx
  by_cases c : x = p
  · subst c
    refine ⟨?_, ?_, ?_, fun k hk => ?_⟩
    · rw [b1, if_pos rfl, z 0 (by omega) (by omega)]
    · rw [b4, if_pos rfl, seR_ne (by omega), seR_at]
    · rw [b5, if_pos rfl, z 2 (by omega) (by omega)]
    · rw [z 0 (by omega) (by omega)] at hk; omega
  · have hx' : x < p := by omega
    have a := h.2.1 x (by omega)
    have s := (okW_o w (p := x) (by omega)).1
    refine ⟨?_, ?_, ?_, fun k hk => ?_⟩
    · rw [b1, if_neg c, e x 0 hx' (by omega)]; exact a.1
    · rw [b4, if_neg c, e x 1 hx' (by omega)]; exact a.2.1
    · rw [b5, if_neg c, e x 2 hx' (by omega)]; exact a.2.2.1
    · rw [e x 0 hx' (by omega)] at hk
      rw [b2, b3, e x _ hx' (by omega), e x _ hx' (by omega)]
      exact a.2.2.2 k hk
theorem rO_am {A B : Nat → Nat → Nat} {o : Nat} {S : Nat → Nat} {p m kd v : Nat} (h : rO A o (seR S 0 (p + 1))) (s3 : ∀ x, x < p → S (30 + 9 * x + 0) ≤ 3) (hm : S (30 + 9 * p + 0) = m) (m3 : m < 3) (h8 : p < 8) (k10 : kd ≤ 10) (v7 : v ≤ 7) (b0 : B o 0 = A o 0) (b1 : ∀ x, B (o + 1) x = if x = p then m + 1 else A (o + 1) x) (b2 : ∀ x, B (o + 2) x = if x = p * 3 + m then kd else A (o + 2) x) (b3 : ∀ x, B (o + 3) x = if x = p * 3 + m then v else A (o + 3) x) (b4 : B (o + 4) = A (o + 4)) (b5 : B (o + 5) = A (o + 5)) : rO B o (seR (mcR S p kd v) 0 (p + 1)) := by
  have q : ∀ i, i ≠ 0 → i ≠ 30 + 9 * p + 0 → i ≠ 30 + 9 * p + (3 + 2 * m) → i ≠ 30 + 9 * p + (3 + 2 * m + 1) → seR (mcR S p kd v) 0 (p + 1) i = S i := fun i a b c d => by
    unfold mcR
    rw [seR_ne a, seR_ne b, hm, seR_ne d, seR_ne c]
  have e : ∀ x y, x < p → y < 9 → seR (mcR S p kd v) 0 (p + 1) (30 + 9 * x + y) = S (30 + 9 * x + y) := fun x y hx hy => q _ (by omega) (by omega) (by omega) (by omega)
  have z0 : seR (mcR S p kd v) 0 (p + 1) (30 + 9 * p + 0) = m + 1 := by
    rw [seR_ne (by omega)]; unfold mcR; rw [seR_at, hm]
  have z1 : seR (mcR S p kd v) 0 (p + 1) (30 + 9 * p + (3 + 2 * m)) = kd := by
    rw [seR_ne (by omega)]; unfold mcR; rw [hm, seR_ne (by omega), seR_ne (by omega), seR_at]
  have z2 : seR (mcR S p kd v) 0 (p + 1) (30 + 9 * p + (3 + 2 * m + 1)) = v := by
    rw [seR_ne (by omega)]; unfold mcR; rw [hm, seR_ne (by omega), seR_at]
  have g : ∀ i, i ≠ 0 → seR S 0 (p + 1) i = S i := fun i hi => seR_ne hi
  refine ⟨by rw [seR_at, b0, h.1, seR_at], fun x hx => ?_, fun z hz => ?_⟩
  · rw [seR_at] at hx
    have a := h.2.1 x (by rw [seR_at]; exact hx)
    by_cases c : x = p
    · subst c
      refine ⟨?_, ?_, ?_, fun k hk => ?_⟩
      · rw [b1, if_pos rfl, z0]
      · rw [b4, q _ (by omega) (by omega) (by omega) (by omega), a.2.1, g _ (by omega)]
      · rw [b5, q _ (by omega) (by omega) (by omega) (by omega), a.2.2.1, g _ (by omega)]
      · rw [z0] at hk
        by_cases y : k = m
        · subst y
          rw [b2, b3, if_pos rfl, if_pos rfl, z1, z2]
          exact ⟨rfl, rfl⟩
        · have := a.2.2.2 k (by rw [g _ (by omega), hm]; omega)
          rw [g _ (by omega), g _ (by omega)] at this
          rw [b2, b3, if_neg (by omega), if_neg (by omega), q _ (by omega) (by omega) (by omega) (by omega), q _ (by omega) (by omega) (by omega) (by omega)]
          exact this
    · have hx' : x < p := by omega
      have s := s3 x hx'
      refine ⟨?_, ?_, ?_, fun k hk => ?_⟩
      · rw [b1, if_neg c, e x 0 hx' (by omega), a.1, g _ (by omega)]
      · rw [b4, e x 1 hx' (by omega), a.2.1, g _ (by omega)]
      · rw [b5, e x 2 hx' (by omega), a.2.2.1, g _ (by omega)]
      · rw [e x 0 hx' (by omega)] at hk
        have := a.2.2.2 k (by rw [g _ (by omega)]; exact hk)
        rw [g _ (by omega), g _ (by omega)] at this
        rw [b2, b3, if_neg (by omega), if_neg (by omega), e x _ hx' (by omega), e x _ hx' (by omega)]
        exact this
  · have a := h.2.2 z hz
    rw [b2, b3]
    refine ⟨?_, ?_⟩
    · split
      · exact k10
      · exact a.1
    · split
      · exact v7
      · exact a.2
theorem kd_w {t : Nat → Nat} {E i : Nat} (h : i ≤ E) (k : (kdR t (skB t E i) (ltE t E (skB t E i))) ≠ 4294967295) : tkK t E i = 2 := by
  rw [← wa_m h] at k
  unfold waN at k
  by_cases z : tkK t E i = 2
  · exact z
  · rw [if_neg z] at k; exact absurd rfl k
def miB (t : Nat → Nat) (E i : Nat) : Bool := if (kdR t (skB t E i) (ltE t E (skB t E i))) = 4294967295 then false else if hnB (kdR t (skB t E i) (ltE t E (skB t E i))) = true then !decide (nmV t E (ltE t E (skB t E i)) 7 = 4294967295) else true
def miE (t : Nat → Nat) (E i : Nat) : Nat := if hnB (kdR t (skB t E i) (ltE t E (skB t E i))) = true then nmE t E (ltE t E (skB t E i)) else ltE t E (skB t E i)
def miV (t : Nat → Nat) (E i : Nat) : Nat := if hnB (kdR t (skB t E i) (ltE t E (skB t E i))) = true then nmV t E (ltE t E (skB t E i)) 7 else 0
def miX (t : Nat → Nat) (E i : Nat) : Nat := if (kdR t (skB t E i) (ltE t E (skB t E i))) = 4294967295 then skB t E i else skB t E (ltE t E (skB t E i))
def miP (A B : Nat → Nat → Nat) (t : Nat → Nat) (E i : Nat) : Prop := (miB t E i = true → kI B t E (miE t E i) ∧ B 258 3 = A 258 3 ∧ ∀ q, q ≠ 258 → B q = adM A 18 (kdR t (skB t E i) (ltE t E (skB t E i))) (miV t E i) q) ∧ (miB t E i = false → tI B t E ∧ B 258 3 = miX t E i ∧ ∀ q, q ≠ 258 → B q = A q)
theorem bkP_pre {A C B : Nat → Nat → Nat} {t : Nat → Nat} {E : Nat} {b : Bool} {r : PR} (f : frR A C) (h : bkP C B t E b r) : bkP A B t E b r := ⟨fun z => by
    obtain ⟨k, h1, h2, h3⟩ := h.1 z
    exact ⟨k, h1, h2.trans (frR_3 f), h3⟩, h.2.1, fun q a b => (h.2.2 q a b).trans (f.1 q b)⟩
theorem opS_0 {t R : Nat → Nat} {E i b : Nat} (h : R 0 ≠ 8) : opS t E R i b = opS t E R i 0 := by
  unfold opS; rw [if_neg h, if_neg h]
theorem w4 {X : gv_X} {d : Nat} {G : gv_Sh} {A : Nat → Nat → Nat} {j : Nat → Nat → Int64} {cc : gv_Rs} {P : gv_O × gv_S → Prop} {t : Nat → Nat} {E : Nat} {i : Nat} (hp260 : oX0 G 260) (H : (kI A t E i) ∧ ((1 ≤ 3 ∧ 3 < 11) ∧ (((waN t E i 3) < 4294967296) ∧ (((¬ (waN t E i 3) = 4294967295) → (tI A t E) ∧ ((A 258 2 = (tkE t E i)) ∧ (((tkE t E i) ≤ E) ∧ ((∀ A1v2 : Nat → Nat → Nat, ((kI A1v2 t E (tkE t E i)) ∧ (frR A A1v2)) → ((waN t E i 3) < 4294967296) ∧ ((((waN t E i 3) = 0) → EvP X (d + 3) gvm_4 52 [some (.ref 260), some (.int (nI (waN t E i 3))), some (.int (nI 0))] [] (G, (mI A1v2, j), cc) P) ∧ ((¬ (waN t E i 3) = 0) → ((waN t E i 3) < 4294967296) ∧ ((((waN t E i 3) = 1) → EvP X (d + 3) gvm_4 52 [some (.ref 260), some (.int (nI (waN t E i 3))), some (.int (nI 0))] [] (G, (mI A1v2, j), cc) P) ∧ ((¬ (waN t E i 3) = 1) → ((waN t E i 3) < 4294967296) ∧ ((((waN t E i 3) = 2) → EvP X (d + 3) gvm_4 52 [some (.ref 260), some (.int (nI (waN t E i 3))), some (.int (nI 0))] [] (G, (mI A1v2, j), cc) P) ∧ ((¬ (waN t E i 3) = 2) → ((waN t E i 3) < 4294967296) ∧ (((¬ (waN t E i 3) = 9) → EvP X (d + 3) gvm_4 87 [some (.ref 260), some (.int (nI (waN t E i 3))), some (.int (nI 0))] [] (G, (mI A1v2, j), cc) P) ∧ (((waN t E i 3) = 9) → EvP X (d + 3) gvm_4 52 [some (.ref 260), some (.int (nI (waN t E i 3))), some (.int (nI 0))] [] (G, (mI A1v2, j), cc) P))))))))))))) ∧ (((waN t E i 3) = 4294967295) → (∀ A7 : Nat → Nat → Nat, A7 = (gu A 258 3 (A 258 4)) → P (.inl (some (.int (zo false))), (G, (mI A7, j), cc)))))))) : EvP X (d + 3) gvm_4 0 (gv_enter [.ref 260] 3) [] (G, (mI A, j), cc) P :=
  (pv_aload_n rfl rfl   (pv_getP rfl rfl (oX0_k hp260) (oX0_0 hp260)   (pv_ldcS rfl   (pv_virt rfl rfl rfl rfl rfl (oX7_k (oX0_0c hp260)) rfl rfl rfl (c_wordAmong (q := 3) (t := t) (E := E) (i := i) (A := A) (oX0_0c hp260) H.1 H.2.1 ) (pv_istore_n rfl rfl   (pv_iload_n rfl rfl   (pn_iconst (u := 4294967295) rfl (by decide)   (pn_ic_ne rfl H.2.2.1 (by decide) (fun c1 => (pv_aload_n rfl rfl   (pv_getP rfl rfl (oX0_k hp260) (oX0_0 hp260)   (match (c_step (t := t) (E := E) (i := (tkE t E i)) (A := A) (X := X) (d := d + 0) (G := G) (j := j) (cc := cc) (oX0_0c hp260) (H.2.2.2.1 c1).1 (H.2.2.2.1 c1).2.1 (H.2.2.2.1 c1).2.2.1 ) with | ⟨A1v2, e2x27, h2⟩ => pv_virt rfl rfl rfl rfl rfl (oX7_k (oX0_0c hp260)) rfl rfl rfl e2x27 (pn_iconst rfl rfl   (pv_istore_n rfl rfl   (pv_iload_n rfl rfl   (pn_if_eq rfl ((H.2.2.2.1 c1).2.2.2 A1v2 h2).1 (fun c3 => (((H.2.2.2.1 c1).2.2.2 A1v2 h2).2.1 c3)) (fun c3 => (pv_iload_n rfl rfl   (pn_iconst rfl rfl   (pn_ic_eq rfl (((H.2.2.2.1 c1).2.2.2 A1v2 h2).2.2 c3).1 (by decide) (fun c4 => ((((H.2.2.2.1 c1).2.2.2 A1v2 h2).2.2 c3).2.1 c4)) (fun c4 => (pv_iload_n rfl rfl   (pn_iconst rfl rfl   (pn_ic_eq rfl ((((H.2.2.2.1 c1).2.2.2 A1v2 h2).2.2 c3).2.2 c4).1 (by decide) (fun c5 => (((((H.2.2.2.1 c1).2.2.2 A1v2 h2).2.2 c3).2.2 c4).2.1 c5)) (fun c5 => (pv_iload_n rfl rfl   (pn_bipush rfl rfl   (pn_ic_ne rfl (((((H.2.2.2.1 c1).2.2.2 A1v2 h2).2.2 c3).2.2 c4).2.2 c5).1 (by decide) (fun c6 => ((((((H.2.2.2.1 c1).2.2.2 A1v2 h2).2.2 c3).2.2 c4).2.2 c5).2.1 c6)) (fun c6 => ((((((H.2.2.2.1 c1).2.2.2 A1v2 h2).2.2 c3).2.2 c4).2.2 c5).2.2 c6)))))))))))))))))))))) (fun c1 => (pv_aload_n rfl rfl   (pv_getP rfl rfl (oX0_k hp260) (oX0_0 hp260)   (match (⟨(gu A 258 3 (A 258 4)), rfl⟩ : ∃ Z : Nat → Nat → Nat, Z = (gu A 258 3 (A 258 4))) with | ⟨A7, q7⟩ => pv_virt rfl rfl rfl rfl rfl (oX7_k (oX0_0c hp260)) rfl rfl rfl (ev_eqM q7 (c_refuse (A := A) (oX0_0c hp260) )) (pv_iretz rfl rfl (zo_b _) ((H.2.2.2.2 c1) A7 q7))))))))))))))
theorem w4_52 {X : gv_X} {d : Nat} {G : gv_Sh} {A : Nat → Nat → Nat} {j : Nat → Nat → Int64} {cc : gv_Rs} {P : gv_O × gv_S → Prop} {l1 : Nat} {l2 : Nat} {t : Nat → Nat} {E : Nat} {i : Nat} (hp260 : oX0 G 260) (H : (kI A t E i) ∧ ((((!decide (nmV t E i 7 = 4294967295)) = true) → (tI A t E) ∧ ((A 258 2 = (tkE t E i)) ∧ (((tkE t E i) ≤ E) ∧ ((∀ A1v2 : Nat → Nat → Nat, ((kI A1v2 t E (tkE t E i)) ∧ (frR A A1v2)) → EvP X (d + 3) gvm_4 87 [some (.ref 260), some (.int (nI l1)), some (.int (nI (A 258 6)))] [] (G, (mI A1v2, j), cc) P))))) ∧ (((!decide (nmV t E i 7 = 4294967295)) = false) → (∀ A3 : Nat → Nat → Nat, A3 = (gu A 258 3 (A 258 4)) → P (.inl (some (.int (zo false))), (G, (mI A3, j), cc)))))) : EvP X (d + 3) gvm_4 52 [some (.ref 260), some (.int (nI l1)), some (.int (nI l2))] [] (G, (mI A, j), cc) P :=
  (pv_aload_n rfl rfl   (pv_getP rfl rfl (oX0_k hp260) (oX0_0 hp260)   (pn_bipush rfl rfl   (pv_virt rfl rfl rfl rfl rfl (oX7_k (oX0_0c hp260)) rfl rfl rfl (c_isNumberTo (m := 7) (t := t) (E := E) (i := i) (A := A) (oX0_0c hp260) H.1 (by decide) ) (pv_if_ne_zo rfl  (fun c1 => (pv_aload_n rfl rfl   (pv_getP rfl rfl (oX0_k hp260) (oX0_0 hp260)   (pn_getI rfl rfl (oX7_k (oX0_0c hp260)) rfl   (pv_istore_n rfl rfl   (pv_aload_n rfl rfl   (pv_getP rfl rfl (oX0_k hp260) (oX0_0 hp260)   (match (c_step (t := t) (E := E) (i := (tkE t E i)) (A := A) (X := X) (d := d + 0) (G := G) (j := j) (cc := cc) (oX0_0c hp260) (H.2.1 c1).1 (H.2.1 c1).2.1 (H.2.1 c1).2.2.1 ) with | ⟨A1v2, e2x84, h2⟩ => pv_virt rfl rfl rfl rfl rfl (oX7_k (oX0_0c hp260)) rfl rfl rfl e2x84 ((H.2.1 c1).2.2.2 A1v2 h2))))))))) (fun c1 => (pv_aload_n rfl rfl   (pv_getP rfl rfl (oX0_k hp260) (oX0_0 hp260)   (match (⟨(gu A 258 3 (A 258 4)), rfl⟩ : ∃ Z : Nat → Nat → Nat, Z = (gu A 258 3 (A 258 4))) with | ⟨A3, q3⟩ => pv_virt rfl rfl rfl rfl rfl (oX7_k (oX0_0c hp260)) rfl rfl rfl (ev_eqM q3 (c_refuse (A := A) (oX0_0c hp260) )) (pv_iretz rfl rfl (zo_b _) ((H.2.2 c1) A3 q3)))))))))))
theorem w4_87 {X : gv_X} {d : Nat} {G : gv_Sh} {A : Nat → Nat → Nat} {j : Nat → Nat → Int64} {cc : gv_Rs} {P : gv_O × gv_S → Prop} {l1 : Nat} {l2 : Nat} (hp260 : oX0 G 260) (H : (A 18 0 ≤ 8) ∧ ((∀ z, z < A 18 0 → A (18 + 1) z ≤ 3) ∧ ((1 ≤ A 18 0) ∧ ((∀ A1 : Nat → Nat → Nat, A1 = (adM A 18 l1 l2) → P (.inl (some (.int (nI 1))), (G, (mI A1, j), cc))))))) : EvP X (d + 3) gvm_4 87 [some (.ref 260), some (.int (nI l1)), some (.int (nI l2))] [] (G, (mI A, j), cc) P :=
  (pv_aload_n rfl rfl   (pv_getP rfl rfl (oX0_k hp260) (oX0_1 hp260)   (pv_getP rfl rfl (oX10_k (oX0_1c hp260)) (oX10_0 (oX0_1c hp260))   (pv_iload_n rfl rfl   (pv_iload_n rfl rfl   (match (⟨(adM A 18 l1 l2), rfl⟩ : ∃ Z : Nat → Nat → Nat, Z = (adM A 18 l1 l2)) with | ⟨A1, q1⟩ => pv_virt rfl rfl rfl rfl rfl (oX6_k (oX10_0c (oX0_1c hp260))) rfl rfl rfl (ev_eqM q1 (c_addMicro (k := l1) (v := l2) (A := A) (oX10_0c (oX0_1c hp260)) H.1 H.2.1 H.2.2.1 )) (pn_iconst rfl rfl   (pv_iretz rfl rfl (Or.inr rfl) (H.2.2.2 A1 q1)))))))))
theorem c_readMicro_p {X : gv_X} {d : Nat} {G : gv_Sh} {A : Nat → Nat → Nat} {j : Nat → Nat → Int64} {cc : gv_Rs} {P : gv_O × gv_S → Prop} {t : Nat → Nat} {E : Nat} {i : Nat} (hp260 : oX0 G 260) (p0 : kI A t E i) (p1 : A 18 0 ≤ 8) (p2 : ∀ z, z < A 18 0 → A 19 z ≤ 3) (p3 : 1 ≤ A 18 0) (hP : ∀ A1 : Nat → Nat → Nat, (miP A A1 t E i) → P (.inl (some (.int (zo (miB t E i)))), (G, (mI A1, j), cc))) : EvP X (d + 3) gvm_4 0 (gv_enter [.ref 260] 3) [] (G, (mI A, j), cc) P := by
  obtain ⟨kd, hkd⟩ : ∃ k, k = (kdR t (skB t E i) (ltE t E (skB t E i))) := ⟨_, rfl⟩
  have kdl := kdR_le t (skB t E i) (ltE t E (skB t E i))
  rw [← hkd] at kdl
  have be := tkE_b (t := t) p0.2.1
  have K87 : ∀ C v, kI C t E (miE t E i) → frR A C → v = miV t E i → miB t E i = true → EvP X (d + 3) gvm_4 87 [some (.ref 260), some (.int (nI kd)), some (.int (nI v))] [] (G, (mI C, j), cc) P := fun C v k f hv hb => by
    refine w4_87 hp260 ⟨by rw [f.1 18 (by decide)]; exact p1, by rw [f.1 18 (by decide)]; show ∀ z, z < A 18 0 → C 19 z ≤ 3; rw [f.1 19 (by decide)]; exact p2, by rw [f.1 18 (by decide)]; exact p3, fun D hD => qz1 (hP D ⟨fun _ => ⟨?_, ?_, fun q hq => ?_⟩, fun z => (by rw [hb] at z; cases z)⟩) hb⟩
    · rw [hD]; exact kI_of k (fun x _ => by rw [adM_q (by decide)]) (adM_q (by decide))
    · rw [hD, adM_q (by decide)]; exact frR_3 f
    · rw [hD, adM_c f.1 hq, ← hkd, hv]
  have K52 : ∀ C, kd ≠ 4294967295 → hnB kd = true → kI C t E (tkE t E i) → frR A C → EvP X (d + 3) gvm_4 52 [some (.ref 260), some (.int (nI kd)), some (.int (nI 0))] [] (G, (mI C, j), cc) P := fun C nk hn k f => by
    have e2 := tkE_2 (kd_w p0.2.1 (by rw [← hkd]; exact nk))
    have bb := tkE_b (t := t) k.2.1
    refine w4_52 (i := tkE t E i) hp260 ⟨k, fun c => ⟨k.1, k.2.2.2.1, bb.2, fun D h => ?_⟩, fun c D hD => ?_⟩
    · have nv := nd_t c
      obtain ⟨k1, v6, ke⟩ := tkN_v k nv
      rw [v6]
      refine K87 D _ ?_ (frR_tr f h.2) ?_ ?_
      · unfold miE; rw [← hkd, if_pos hn, ← e2, ← ke]; exact h.1
      · unfold miV; rw [← hkd, if_pos hn, ← e2]
      · unfold miB; rw [← hkd, if_neg nk, if_pos hn, ← e2]; exact c
    · obtain ⟨u1, u2, u3⟩ := ref_k k hD
      have hb : miB t E i = false := by unfold miB; rw [← hkd, if_neg nk, if_pos hn, ← e2]; exact c
      rw [← hb]
      refine hP D ⟨fun z => (by rw [hb] at z; cases z), fun _ => ⟨u1, u2.trans ?_, fun q hq => (u3 q hq).trans (f.1 q hq)⟩⟩
      unfold miX; rw [← hkd, if_neg nk, ← e2]
  refine w4 (t := t) (E := E) (i := i) hp260 ?_
  rw [wa_m p0.2.1, ← hkd]
  refine ⟨p0, by decide, by omega, fun c1 => ⟨p0.1, p0.2.2.2.1, be.2, fun B h => ⟨by omega, fun c2 => K52 B c1 (decide_eq_true (by omega)) h.1 h.2, fun c2 => ⟨by omega, fun c3 => K52 B c1 (decide_eq_true (by omega)) h.1 h.2, fun c3 => ⟨by omega, fun c4 => K52 B c1 (decide_eq_true (by omega)) h.1 h.2, fun c4 => ⟨by omega, fun c5 => ?_, fun c5 => K52 B c1 (decide_eq_true (by omega)) h.1 h.2⟩⟩⟩⟩⟩, fun c1 C hC => ?_⟩
  · have hn : ¬ hnB kd = true := by rw [show hnB kd = false from decide_eq_false (by omega)]; decide
    refine K87 B 0 ?_ h.2 ?_ ?_
    · unfold miE; rw [← hkd, if_neg hn, ← tkE_2 (kd_w p0.2.1 (by rw [← hkd]; exact c1))]; exact h.1
    · unfold miV; rw [← hkd, if_neg hn]
    · unfold miB; rw [← hkd, if_neg c1, if_neg hn]
  · obtain ⟨u1, u2, u3⟩ := ref_k p0 hC
    have hb : miB t E i = false := by unfold miB; rw [← hkd, if_pos c1]
    rw [← hb]
    refine hP C ⟨fun z => (by rw [hb] at z; cases z), fun _ => ⟨u1, u2.trans ?_, u3⟩⟩
    unfold miX; rw [← hkd, if_pos c1]
theorem c_readMicro {X : gv_X} {d : Nat} {G : gv_Sh} {A : Nat → Nat → Nat} {j : Nat → Nat → Int64} {cc : gv_Rs} {t : Nat → Nat} {E : Nat} {i : Nat} (hp260 : oX0 G 260) (p0 : kI A t E i) (p1 : A 18 0 ≤ 8) (p2 : ∀ z, z < A 18 0 → A 19 z ≤ 3) (p3 : 1 ≤ A 18 0) : ∃ A1 : Nat → Nat → Nat, Ev X (d + 3) gvm_4 0 (gv_enter [.ref 260] 3) [] (G, (mI A, j), cc) (.inl (some (.int (zo (miB t E i)))), (G, (mI A1, j), cc)) ∧ (miP A A1 t E i) := by
  obtain ⟨_, h, A1, rfl, hp⟩ := c_readMicro_p (X := X) (d := d) (G := G) (A := A) (j := j) (cc := cc) (t := t) (E := E) (i := i) (P := fun r => ∃ A1 : Nat → Nat → Nat, r = (.inl (some (.int (zo (miB t E i)))), (G, (mI A1, j), cc)) ∧ (miP A A1 t E i)) hp260 p0 p1 p2 p3 (fun A1 h => ⟨A1, rfl, h⟩)
  exact ⟨A1, h, hp⟩
theorem w3 {X : gv_X} {d : Nat} {G : gv_Sh} {A : Nat → Nat → Nat} {j : Nat → Nat → Int64} {cc : gv_Rs} {P : gv_O × gv_S → Prop} {t : Nat → Nat} {E : Nat} {i : Nat} (hp260 : oX0 G 260) (H : (kI A t E i) ∧ ((1 ≤ 2 ∧ 2 < 11) ∧ (((¬ (waN t E i 2 = 0)) → (A 18 0 ≤ 8) ∧ ((∀ A2 : Nat → Nat → Nat, A2 = (adO A 18 (decide (waN t E i 2 = 0))) → EvP X (d + 4) gvm_3 32 [some (.ref 260), some (.int (zo (decide (waN t E i 2 = 0)))), none] [] (G, (mI A2, j), cc) P))) ∧ ((waN t E i 2 = 0) → (tI A t E) ∧ ((A 258 2 = (tkE t E i)) ∧ (((tkE t E i) ≤ E) ∧ ((∀ A1v3 : Nat → Nat → Nat, ((kI A1v3 t E (tkE t E i)) ∧ (frR A A1v3)) → (A1v3 18 0 ≤ 8) ∧ ((∀ A4 : Nat → Nat → Nat, A4 = (adO A1v3 18 (decide (waN t E i 2 = 0))) → EvP X (d + 4) gvm_3 32 [some (.ref 260), some (.int (zo (decide (waN t E i 2 = 0)))), none] [] (G, (mI A4, j), cc) P)))))))))) : EvP X (d + 4) gvm_3 0 (gv_enter [.ref 260] 3) [] (G, (mI A, j), cc) P :=
  (pv_aload_n rfl rfl   (pv_getP rfl rfl (oX0_k hp260) (oX0_0 hp260)   (pv_ldcS rfl   (pv_virt rfl rfl rfl rfl rfl (oX7_k (oX0_0c hp260)) rfl rfl rfl (c_isWord (q := 2) (t := t) (E := E) (i := i) (A := A) (oX0_0c hp260) H.1 H.2.1 ) (pv_istore_n rfl rfl   (pv_iload_n rfl rfl   (pv_if_eq_dc rfl  (fun c1 => (pv_aload_n rfl rfl   (pv_getP rfl rfl (oX0_k hp260) (oX0_1 hp260)   (pv_getP rfl rfl (oX10_k (oX0_1c hp260)) (oX10_0 (oX0_1c hp260))   (pv_iload_n rfl rfl   (match (⟨(adO A 18 (decide (waN t E i 2 = 0))), rfl⟩ : ∃ Z : Nat → Nat → Nat, Z = (adO A 18 (decide (waN t E i 2 = 0)))) with | ⟨A2, q2⟩ => pv_virt rfl rfl rfl rfl rfl (oX6_k (oX10_0c (oX0_1c hp260))) rfl rfl rfl (ev_eqM q2 (c_addOp (g := (decide (waN t E i 2 = 0))) (A := A) (oX10_0c (oX0_1c hp260)) (H.2.2.1 c1).1 )) ((H.2.2.1 c1).2 A2 q2))))))) (fun c1 => (pv_aload_n rfl rfl   (pv_getP rfl rfl (oX0_k hp260) (oX0_0 hp260)   (match (c_step (t := t) (E := E) (i := (tkE t E i)) (A := A) (X := X) (d := d + 1) (G := G) (j := j) (cc := cc) (oX0_0c hp260) (H.2.2.2 c1).1 (H.2.2.2 c1).2.1 (H.2.2.2 c1).2.2.1 ) with | ⟨A1v3, e4x18, h3⟩ => pv_virt rfl rfl rfl rfl rfl (oX7_k (oX0_0c hp260)) rfl rfl rfl e4x18 (pv_aload_n rfl rfl   (pv_getP rfl rfl (oX0_k hp260) (oX0_1 hp260)   (pv_getP rfl rfl (oX10_k (oX0_1c hp260)) (oX10_0 (oX0_1c hp260))   (pv_iload_n rfl rfl   (match (⟨(adO A1v3 18 (decide (waN t E i 2 = 0))), rfl⟩ : ∃ Z : Nat → Nat → Nat, Z = (adO A1v3 18 (decide (waN t E i 2 = 0)))) with | ⟨A4, q4⟩ => pv_virt rfl rfl rfl rfl rfl (oX6_k (oX10_0c (oX0_1c hp260))) rfl rfl rfl (ev_eqM q4 (c_addOp (g := (decide (waN t E i 2 = 0))) (A := A1v3) (oX10_0c (oX0_1c hp260)) ((H.2.2.2 c1).2.2.2 A1v3 h3).1 )) (((H.2.2.2 c1).2.2.2 A1v3 h3).2 A4 q4)))))))))))))))))
theorem w3_32 {X : gv_X} {d : Nat} {G : gv_Sh} {A : Nat → Nat → Nat} {j : Nat → Nat → Int64} {cc : gv_Rs} {P : gv_O × gv_S → Prop} {l1 : Bool} (hp260 : oX0 G 260) (H : EvP X (d + 4) gvm_3 34 [some (.ref 260), some (.int (zo l1)), some (.int (nI 0))] [] (G, (mI A, j), cc) P) : EvP X (d + 4) gvm_3 32 [some (.ref 260), some (.int (zo l1)), none] [] (G, (mI A, j), cc) P :=
  (pn_iconst rfl rfl   (pv_istore_n rfl rfl   H))
theorem w3_34 {X : gv_X} {d : Nat} {G : gv_Sh} {A : Nat → Nat → Nat} {j : Nat → Nat → Int64} {cc : gv_Rs} {P : gv_O × gv_S → Prop} {l1 : Bool} {l2 : Nat} {t : Nat → Nat} {E : Nat} {i : Nat} (hp260 : oX0 G 260) (H : (l2 < 2147483648) ∧ (((3 ≤ l2) → P (.inl (some (.int (nI 1))), (G, (mI A, j), cc))) ∧ ((l2 < 3) → (l2 < 4294967296) ∧ (((l2 = 0) → (kI A t E i) ∧ ((A 18 0 ≤ 8) ∧ ((∀ z, z < A 18 0 → A 19 z ≤ 3) ∧ ((1 ≤ A 18 0) ∧ ((∀ A1v1 : Nat → Nat → Nat, ((miP A A1v1 t E i)) → (((miB t E i) = true) → EvP X (d + 4) gvm_3 34 [some (.ref 260), some (.int (zo l1)), some (.int (nI (l2 + 1)))] [] (G, (mI A1v1, j), cc) P) ∧ (((miB t E i) = false) → P (.inl (some (.int (nI 0))), (G, (mI A1v1, j), cc))))))))) ∧ ((¬ l2 = 0) → ((A 258 5) < 4294967296) ∧ (((¬ (A 258 5) = 2) → P (.inl (some (.int (nI 1))), (G, (mI A, j), cc))) ∧ (((A 258 5) = 2) → (kI A t E i) ∧ ((A 18 0 ≤ 8) ∧ ((∀ z, z < A 18 0 → A 19 z ≤ 3) ∧ ((1 ≤ A 18 0) ∧ ((∀ A1v2 : Nat → Nat → Nat, ((miP A A1v2 t E i)) → (((miB t E i) = true) → EvP X (d + 4) gvm_3 34 [some (.ref 260), some (.int (zo l1)), some (.int (nI (l2 + 1)))] [] (G, (mI A1v2, j), cc) P) ∧ (((miB t E i) = false) → P (.inl (some (.int (nI 0))), (G, (mI A1v2, j), cc))))))))))))))) : EvP X (d + 4) gvm_3 34 [some (.ref 260), some (.int (zo l1)), some (.int (nI l2))] [] (G, (mI A, j), cc) P :=
  (pv_iload_n rfl rfl   (pn_iconst rfl rfl   (pn_ic_ge rfl H.1 (by decide) (fun c1 => (pn_iconst rfl rfl   (pv_iretz rfl rfl (Or.inr rfl) (H.2.1 c1)))) (fun c1 => (pv_iload_n rfl rfl   (pn_if_eq rfl (H.2.2 c1).1 (fun c2 => (pv_aload_n rfl rfl   (match (c_readMicro (t := t) (E := E) (i := i) (A := A) (X := X) (d := d + 0) (G := G) (j := j) (cc := cc) hp260 ((H.2.2 c1).2.1 c2).1 ((H.2.2 c1).2.1 c2).2.1 ((H.2.2 c1).2.1 c2).2.2.1 ((H.2.2 c1).2.1 c2).2.2.2.1 ) with | ⟨A1v1, e1x55, h3⟩ => pv_virt rfl rfl rfl rfl rfl (oX0_k hp260) rfl rfl rfl e1x55 (pv_if_ne_zo rfl  (fun c4 => (pn_iinc rfl rfl rfl rfl   (pv_goto rfl ((((H.2.2 c1).2.1 c2).2.2.2.2 A1v1 h3).1 c4)))) (fun c4 => (pn_iconst rfl rfl   (pv_iretz rfl rfl (Or.inl rfl) ((((H.2.2 c1).2.1 c2).2.2.2.2 A1v1 h3).2 c4)))))))) (fun c2 => (pv_aload_n rfl rfl   (pv_getP rfl rfl (oX0_k hp260) (oX0_0 hp260)   (pn_getI rfl rfl (oX7_k (oX0_0c hp260)) rfl   (pn_iconst rfl rfl   (pn_ic_ne rfl ((H.2.2 c1).2.2 c2).1 (by decide) (fun c5 => (pn_iconst rfl rfl   (pv_iretz rfl rfl (Or.inr rfl) (((H.2.2 c1).2.2 c2).2.1 c5)))) (fun c5 => (pv_aload_n rfl rfl   (match (c_readMicro (t := t) (E := E) (i := i) (A := A) (X := X) (d := d + 0) (G := G) (j := j) (cc := cc) hp260 (((H.2.2 c1).2.2 c2).2.2 c5).1 (((H.2.2 c1).2.2 c2).2.2 c5).2.1 (((H.2.2 c1).2.2 c2).2.2 c5).2.2.1 (((H.2.2 c1).2.2 c2).2.2 c5).2.2.2.1 ) with | ⟨A1v2, e2x55, h6⟩ => pv_virt rfl rfl rfl rfl rfl (oX0_k hp260) rfl rfl rfl e2x55 (pv_if_ne_zo rfl  (fun c7 => (pn_iinc rfl rfl rfl rfl   (pv_goto rfl (((((H.2.2 c1).2.2 c2).2.2 c5).2.2.2.2 A1v2 h6).1 c7)))) (fun c7 => (pn_iconst rfl rfl   (pv_iretz rfl rfl (Or.inl rfl) (((((H.2.2 c1).2.2 c2).2.2 c5).2.2.2.2 A1v2 h6).2 c7))))))))))))))))))))
theorem c_readOp_p {X : gv_X} {d : Nat} {G : gv_Sh} {A : Nat → Nat → Nat} {j : Nat → Nat → Int64} {cc : gv_Rs} {P : gv_O × gv_S → Prop} {t : Nat → Nat} {E : Nat} {i : Nat} {R : Nat → Nat} (hp260 : oX0 G 260) (p0 : kI A t E i) (p1 : okW R) (p2 : rW A 17 R) (p3 : R 0 < 8) (hP : ∀ A1 : Nat → Nat → Nat, ∀ b1 : Bool, (bkP A A1 t E b1 (opS t E R i 0)) → P (.inl (some (.int (zo b1))), (G, (mI A1, j), cc))) : EvP X (d + 4) gvm_3 0 (gv_enter [.ref 260] 3) [] (G, (mI A, j), cc) P := by
  obtain ⟨p, hp⟩ : ∃ p, p = R 0 := ⟨_, rfl⟩
  obtain ⟨ms, hms⟩ : ∃ r, r = msS t E p (seR (zpN R p 9) (30 + 9 * p + 1) (psB t E i 2).toNat) (psE t E i 2) := ⟨_, rfl⟩
  have er : opS t E R i 0 = if ms.1 = true then (true, seR ms.2.1 0 (ms.2.1 0 + 1), ms.2.2) else ms := by
    unfold opS; rw [if_neg (by omega), ← hp, ← hms]
  rw [er] at hP
  have n := okW_n p1
  have FT : ∀ B S i k x l1, kI B t E k → skB t E k = skB t E i → okD R S p → rO B 18 (seR S 0 (p + 1)) → B 258 3 = A 258 3 → (∀ q, ¬ (18 ≤ q ∧ q ≤ 23) → q ≠ 258 → B q = A q) → ms = (true, S, i, x) → bkP A B t E l1 (if ms.1 = true then (true, seR ms.2.1 0 (ms.2.1 0 + 1), ms.2.2) else ms) ∨ l1 = false := fun B S i k x l1 hk sk oD ro h3 fr e => by
    cases l1 with
    | false => exact Or.inr rfl
    | true =>
      have s0 : S 0 = p := (oD.1 0 (by omega)).trans hp.symm
      rw [e]
      refine Or.inl (bkP_t hk h3 rfl sk ?_ (fun q a b => fr q (by omega) b))
      show rW B 17 (seR S 0 (S 0 + 1))
      rw [s0]
      exact rW_ow p2 p1 (fun x a b => (seR_ne a).trans (oD.1 x (by omega))) (fun q a b c => fr q (by omega) (by omega)) ro
  have FT' : ∀ B S i k x, kI B t E k → skB t E k = skB t E i → okD R S p → rO B 18 (seR S 0 (p + 1)) → B 258 3 = A 258 3 → (∀ q, ¬ (18 ≤ q ∧ q ≤ 23) → q ≠ 258 → B q = A q) → ms = (true, S, i, x) → bkP A B t E true (if ms.1 = true then (true, seR ms.2.1 0 (ms.2.1 0 + 1), ms.2.2) else ms) := fun B S i k x a b c d e f g => by
    rcases FT B S i k x true a b c d e f g with z | z
    · exact z
    · cases z
  have FF : ∀ S i x, ms = (false, S, i, x) → (if ms.1 = true then (true, seR ms.2.1 0 (ms.2.1 0 + 1), ms.2.2) else ms) = (false, S, i, x) := fun S i x e => by
    rw [e]; rfl
  have L : ∀ f m S i B, m + f = 3 → kI B t E i → okD R S p → S (30 + 9 * p + 0) = m → rO B 18 (seR S 0 (p + 1)) → B 258 3 = A 258 3 → (∀ q, ¬ (18 ≤ q ∧ q ≤ 23) → q ≠ 258 → B q = A q) → (m = 0 → ms = msS t E p S i) → (m ≠ 0 → ms = mcS t E p (f + 1) S i) → ∀ l1, EvP X (d + 4) gvm_3 34 [some (.ref 260), some (.int (zo l1)), some (.int (nI m))] [] (G, (mI B, j), cc) P := by
    intro f
    induction f with
    | zero =>
      intro m S i B e1 k oD hm ro h3 fr h4 h5 l1
      obtain rfl : m = 3 := by omega
      have st : mcS t E p (0 + 1) S i = if (kdR t (skB t E i) (ltE t E (skB t E i))) = 4294967295 then (true, S, skB t E i, skB t E i) else if S (30 + 9 * p + 0) = 3 then (false, S, ltE t E (skB t E i), skB t E i) else if hnB (kdR t (skB t E i) (ltE t E (skB t E i))) = true then (if nmV t E (ltE t E (skB t E i)) 7 = 4294967295 then (false, S, nmE t E (ltE t E (skB t E i)), skB t E (ltE t E (skB t E i))) else mcS t E p 0 (mcR S p (kdR t (skB t E i) (ltE t E (skB t E i))) (nmV t E (ltE t E (skB t E i)) 7)) (nmE t E (ltE t E (skB t E i)))) else mcS t E p 0 (mcR S p (kdR t (skB t E i) (ltE t E (skB t E i))) 0) (ltE t E (skB t E i)) := rfl
      have h6 := (h5 (by decide)).trans st
      refine w3_34 (t := t) (E := E) (i := i) hp260 ⟨by omega, fun c => qz1 (hP B true ?_) rfl, fun c => absurd c (by omega)⟩
      by_cases y : (kdR t (skB t E i) (ltE t E (skB t E i))) = 4294967295
      · rw [if_pos y] at h6
        exact FT' B S _ i _ k (skB_id k.2.1).symm oD ro h3 fr h6
      · rw [if_neg y, if_pos hm] at h6
        rw [FF _ _ _ h6]
        exact bkP_u k h3 rfl rfl (ed_k (Or.inr (kd_w k.2.1 y))) (fun q a b => fr q (by omega) b)
    | succ f ih =>
      intro m S i B e1 k oD hm ro h3 fr h4 h5 l1
      have kl := tkK_le (t := t) (E := E) (i := i)
      have k5 := k.2.2.2.2.1
      have b18 : B 18 0 = p + 1 := ro.1.trans (seR_at _ _ _)
      have s3 : ∀ x, x < p → S (30 + 9 * x + 0) ≤ 3 := fun x hx => by rw [oD.1 _ (by omega)]; exact (okW_o p1 (by omega)).1
      have b19 : ∀ x, x < p + 1 → B 19 x ≤ 3 := fun x hx => by
        have := (ro.2.1 x (by rw [seR_at]; exact hx)).1
        rw [seR_ne (by omega)] at this
        have e : B (18 + 1) x = B 19 x := rfl
        rw [e] at this
        by_cases z : x = p
        · subst z; omega
        · have := s3 x (by omega); omega
      have bp : B 19 p = m := by
        have := (ro.2.1 p (by rw [seR_at]; omega)).1
        rw [seR_ne (by omega), hm] at this
        exact this
      obtain ⟨kd, hkd⟩ : ∃ k, k = (kdR t (skB t E i) (ltE t E (skB t E i))) := ⟨_, rfl⟩
      have kdl := kdR_le t (skB t E i) (ltE t E (skB t E i))
      rw [← hkd] at kdl
      have st : mcS t E p (f + 1 + 1) S i = if kd = 4294967295 then (true, S, skB t E i, skB t E i) else if S (30 + 9 * p + 0) = 3 then (false, S, ltE t E (skB t E i), skB t E i) else if hnB kd = true then (if nmV t E (ltE t E (skB t E i)) 7 = 4294967295 then (false, S, nmE t E (ltE t E (skB t E i)), skB t E (ltE t E (skB t E i))) else mcS t E p (f + 1) (mcR S p kd (nmV t E (ltE t E (skB t E i)) 7)) (nmE t E (ltE t E (skB t E i)))) else mcS t E p (f + 1) (mcR S p kd 0) (ltE t E (skB t E i)) := by rw [hkd]; rfl
      have h6 : kd ≠ 4294967295 → ms = mcS t E p (f + 1 + 1) S i := fun nk => by
        by_cases z : m = 0
        · rw [h4 z]
          unfold msS
          rw [← hkd, if_neg nk]
          have : f + 1 + 1 = 4 := by omega
          rw [this]
        · exact h5 z
      have ltb := ltE_b (t := t) (skB_b (t := t) k.2.1).2
      have MIC : m = 0 ∨ tkK t E i = 2 → ∀ C, miP B C t E i → (miB t E i = true → EvP X (d + 4) gvm_3 34 [some (.ref 260), some (.int (zo l1)), some (.int (nI (m + 1)))] [] (G, (mI C, j), cc) P) ∧ (miB t E i = false → P (.inl (some (.int (nI 0))), (G, (mI C, j), cc))) := fun hw C hC => by
        refine ⟨fun c => ?_, fun c => ?_⟩
        · obtain ⟨g1, g2, g3⟩ := hC.1 c
          unfold miB at c
          rw [← hkd] at c g3
          by_cases nk : kd = 4294967295
          · rw [if_pos nk] at c; cases c
          · rw [if_neg nk] at c
            have v7 : miV t E i ≤ 7 := by
              unfold miV
              rw [← hkd]
              by_cases hn : hnB kd = true
              · rw [if_pos hn] at c ⊢
                rcases nmV_lt (t := t) (E := E) (i := ltE t E (skB t E i)) (h := 7) ltb.2 (Or.inl (by decide)) with x | x
                · exact absurd x (nd_t c)
                · omega
              · rw [if_neg hn]; omega
            have e6 : ms = mcS t E p (f + 1) (mcR S p kd (miV t E i)) (miE t E i) := by
              rw [h6 nk, st, if_neg nk, if_neg (by omega)]
              unfold miV miE
              rw [← hkd]
              by_cases hn : hnB kd = true
              · rw [if_pos hn] at c
                rw [if_pos hn, if_pos hn, if_pos hn, if_neg (nd_t c)]
              · rw [if_neg hn, if_neg hn, if_neg hn]
            have ad : ∀ q, q ≠ 258 → C q = gu (gu (gu B 20 (p * 3 + m) kd) 21 (p * 3 + m) (miV t E i)) 19 p (m + 1) q := fun q hq => by
              rw [g3 q hq]
              unfold adM
              rw [show (18 + 1) = 19 from rfl, b18, show p + 1 - 1 = p from rfl, bp, if_pos (by omega)]
            refine ih (m + 1) (mcR S p kd (miV t E i)) (miE t E i) C (by omega) g1 (okD_mc oD (by omega) (by omega) v7) (by rw [mcR_0, hm]) ?_ (g2.trans h3) ?_ (fun z => absurd z (by omega)) (fun _ => e6) l1
            · refine rO_am ro s3 hm (by omega) (by omega) (by omega) v7 ?_ (fun x => ?_) (fun x => ?_) (fun x => ?_) ?_ ?_
              · rw [ad 18 (by decide), gu_row (by decide), gu_row (by decide), gu_row (by decide)]
              · show C 19 x = if x = p then m + 1 else B 19 x
                rw [ad 19 (by decide), gu_at]
                show (if x = p then m + 1 else gu (gu B 20 (p * 3 + m) kd) 21 (p * 3 + m) (miV t E i) 19 x) = _
                rw [gu_row (by decide), gu_row (by decide)]
              · show C 20 x = if x = p * 3 + m then kd else B 20 x
                rw [ad 20 (by decide), gu_row (by decide), gu_row (by decide), gu_at]
              · show C 21 x = if x = p * 3 + m then miV t E i else B 21 x
                rw [ad 21 (by decide), gu_row (by decide), gu_at]
                show (if x = p * 3 + m then miV t E i else gu B 20 (p * 3 + m) kd 21 x) = _
                rw [gu_row (by decide)]
              · rw [ad 22 (by decide), gu_row (by decide), gu_row (by decide), gu_row (by decide)]
              · rw [ad 23 (by decide), gu_row (by decide), gu_row (by decide), gu_row (by decide)]
            · intro q a b
              rw [ad q b, gu_row (by omega), gu_row (by omega), gu_row (by omega)]
              exact fr q a b
        · obtain ⟨g1, g2, g3⟩ := hC.2 c
          have frC : frD A C := fun q a b => (g3 q b).trans (fr q (by omega) b)
          refine qz0 (hP C false ?_) rfl
          unfold miB at c
          unfold miX at g2
          rw [← hkd] at c g2
          by_cases nk : kd = 4294967295
          · rw [if_pos nk] at g2
            by_cases z : m = 0
            · have e : ms = (false, S, ltE t E (skB t E i), skB t E i) := by
                rw [h4 z]; unfold msS; rw [← hkd, if_pos nk]
              rw [FF _ _ _ e]
              exact bkP_f g1 rfl g2 frC
            · have e : ms = (true, S, skB t E i, skB t E i) := by rw [h5 z, st, if_pos nk]
              have k2 : tkK t E i = 2 := by
                rcases hw with x | x
                · exact absurd x z
                · exact x
              rw [e]
              have ne : ¬ edB t E (skB t E i) := by
                unfold edB; rw [skB_id k.2.1]; exact ed_k (Or.inr k2)
              exact bkP_g g1 rfl ne (by rw [g2]; exact (skB_id k.2.1).symm) frC
          · rw [if_neg nk] at c g2
            by_cases hn : hnB kd = true
            · rw [if_pos hn] at c
              have e := (h6 nk).trans st
              rw [if_neg nk, if_neg (by omega), if_pos hn, if_pos (nd_f c)] at e
              rw [FF _ _ _ e]
              exact bkP_f g1 rfl g2 frC
            · rw [if_neg hn] at c; cases c
      refine w3_34 (t := t) (E := E) (i := i) hp260 ?_
      rw [b18]
      refine ⟨by omega, fun c => absurd c (by omega), fun c => ⟨by omega, fun c0 => ⟨k, by omega, b19, by omega, MIC (Or.inl c0)⟩, fun c0 => ⟨by omega, fun c1 => qz1 (hP B true ?_) rfl, fun c1 => ⟨k, by omega, b19, by omega, MIC (Or.inr (by omega))⟩⟩⟩⟩
      have nk : kd = 4294967295 := by
        by_cases z : kd = 4294967295
        · exact z
        · exact absurd (k5.trans (kd_w k.2.1 (by rw [← hkd]; exact z))) c1
      have e : ms = (true, S, skB t E i, skB t E i) := by rw [h5 c0, st, if_pos nk]
      exact FT' B S _ i _ k (skB_id k.2.1).symm oD ro h3 fr e
  have S0 : ∀ B g l1, kI B t E (psE t E i 2) → frR A B → g = psB t E i 2 → EvP X (d + 4) gvm_3 32 [some (.ref 260), some (.int (zo l1)), none] [] (G, (mI (adO B 18 g), j), cc) P := fun B g l1 k f hg => by
    have b18 : B 18 0 = p := by rw [f.1 18 (by decide)]; exact p2.1.1.trans hp.symm
    have ad : adO B 18 g = gu (gu (gu (gu B 19 p 0) 22 p g.toNat) 23 p 0) 18 0 (p + 1) := by
      unfold adO
      rw [b18, if_pos (by omega)]
    refine w3_32 hp260 (L 3 0 (seR (zpN R p 9) (30 + 9 * p + 1) (psB t E i 2).toNat) (psE t E i 2) _ rfl ?_ ⟨fun x hx => ?_, ?_, ?_, ?_, fun x hx => ⟨?_, ?_⟩⟩ ?_ ?_ ?_ ?_ (fun _ => hms) (fun z => absurd rfl z) l1)
    · exact kI_of k (fun x _ => by rw [adO_q (by decide) (by decide) (by decide) (by decide)]) (adO_q (by decide) (by decide) (by decide) (by decide))
    · rw [seR_ne (by omega)]; unfold zpN; rw [if_neg (by omega)]
    · rw [seR_ne (by omega)]; unfold zpN; rw [if_pos (by omega)]; omega
    · rw [seR_at]; cases psB t E i 2 <;> decide
    · rw [seR_ne (by omega)]; unfold zpN; rw [if_pos (by omega)]; omega
    · rw [seR_ne (by omega)]; unfold zpN; rw [if_pos (by omega)]; omega
    · rw [seR_ne (by omega)]; unfold zpN; rw [if_pos (by omega)]; omega
    · rw [seR_ne (by omega)]; unfold zpN; rw [if_pos (by omega)]
    · rw [← hg]
      have ro : rO B 18 R := rO_fr p2.1 (fun a x y => f.1 a (by omega))
      rw [ad]
      refine rO_ao ro p1 hp.symm (by omega) (gu_hit _ _ _ _) (fun x => ?_) (fun x => ?_) (fun x => ?_) ?_ ?_
      · show gu (gu (gu (gu B 19 p 0) 22 p g.toNat) 23 p 0) 18 0 (p + 1) 19 x = if x = p then 0 else B 19 x
        rw [gu_row (by decide), gu_row (by decide), gu_row (by decide), gu_at]
      · show gu (gu (gu (gu B 19 p 0) 22 p g.toNat) 23 p 0) 18 0 (p + 1) 22 x = if x = p then g.toNat else B 22 x
        rw [gu_row (by decide), gu_row (by decide), gu_at]
        show (if x = p then g.toNat else gu B 19 p 0 22 x) = _
        rw [gu_row (by decide)]
      · show gu (gu (gu (gu B 19 p 0) 22 p g.toNat) 23 p 0) 18 0 (p + 1) 23 x = if x = p then 0 else B 23 x
        rw [gu_row (by decide), gu_at]
        show (if x = p then 0 else gu (gu B 19 p 0) 22 p g.toNat 23 x) = _
        rw [gu_row (by decide), gu_row (by decide)]
      · rw [gu_row (by decide), gu_row (by decide), gu_row (by decide), gu_row (by decide)]
      · rw [gu_row (by decide), gu_row (by decide), gu_row (by decide), gu_row (by decide)]
    · rw [adO_q (by decide) (by decide) (by decide) (by decide)]; exact frR_3 f
    · intro q a b
      rw [adO_q (by omega) (by omega) (by omega) (by omega)]; exact f.1 q b
  have be := tkE_b (t := t) p0.2.1
  have sb := skB_b (t := t) p0.2.1
  have b8 : A 18 0 = R 0 := p2.1.1
  refine w3 (t := t) (E := E) (i := i) hp260 ⟨p0, by decide, fun c => ⟨by omega, fun B hB => ?_⟩, fun c => ⟨p0.1, p0.2.2.2.1, be.2, fun B h => ⟨by rw [h.2.1 18 (by decide)]; omega, fun C hC => ?_⟩⟩⟩
  · have e : psB t E i 2 = false := by rw [← wa_2 p0.2.1]; exact decide_eq_false c
    rw [hB]
    refine S0 A _ _ (kI_sk p0 ?_ ?_) (frR_rf A) (wa_2 p0.2.1)
    · unfold psE; rw [if_neg (by rw [e]; decide)]; exact skB_id p0.2.1
    · unfold psE; rw [if_neg (by rw [e]; decide)]; exact sb.2
  · have e : psB t E i 2 = true := by rw [← wa_2 p0.2.1]; exact decide_eq_true c
    have k2 : tkK t E i = 2 := by
      by_cases z : tkK t E i = 2
      · exact z
      · unfold waN at c; rw [if_neg z] at c; cases c
    rw [hC]
    refine S0 B _ _ ?_ h.2 (wa_2 p0.2.1)
    unfold psE; rw [if_pos e, ← tkE_2 k2]; exact h.1
theorem c_readOp {X : gv_X} {d : Nat} {G : gv_Sh} {A : Nat → Nat → Nat} {j : Nat → Nat → Int64} {cc : gv_Rs} {t : Nat → Nat} {E : Nat} {i : Nat} {R : Nat → Nat} (hp260 : oX0 G 260) (p0 : kI A t E i) (p1 : okW R) (p2 : rW A 17 R) (p3 : R 0 < 8) : ∃ A1 : Nat → Nat → Nat, ∃ b1 : Bool, Ev X (d + 4) gvm_3 0 (gv_enter [.ref 260] 3) [] (G, (mI A, j), cc) (.inl (some (.int (zo b1))), (G, (mI A1, j), cc)) ∧ (bkP A A1 t E b1 (opS t E R i 0)) := by
  obtain ⟨_, h, A1, b1, rfl, hp⟩ := c_readOp_p (X := X) (d := d) (G := G) (A := A) (j := j) (cc := cc) (t := t) (E := E) (i := i) (R := R) (P := fun r => ∃ A1 : Nat → Nat → Nat, ∃ b1 : Bool, r = (.inl (some (.int (zo b1))), (G, (mI A1, j), cc)) ∧ (bkP A A1 t E b1 (opS t E R i 0))) hp260 p0 p1 p2 p3 (fun A1 b1 h => ⟨A1, b1, rfl, h⟩)
  exact ⟨A1, b1, h, hp⟩
theorem w2 {X : gv_X} {d : Nat} {G : gv_Sh} {A : Nat → Nat → Nat} {j : Nat → Nat → Int64} {cc : gv_Rs} {P : gv_O × gv_S → Prop} {t : Nat → Nat} {E : Nat} {i : Nat} (hp260 : oX0 G 260) (H : (kI A t E i) ∧ ((1 ≤ 1 ∧ 1 < 11) ∧ (((waN t E i 1) < 4294967296) ∧ ((((waN t E i 1) = 4294967295) → (∀ A2 : Nat → Nat → Nat, A2 = (gu A 258 3 (A 258 4)) → P (.inl (some (.int (zo false))), (G, (mI A2, j), cc)))) ∧ ((¬ (waN t E i 1) = 4294967295) → ((waN t E i 1) < 4294967296) ∧ (((¬ (waN t E i 1) = 0) → EvP X (d + 5) gvm_2 42 [some (.ref 260), some (.int (nI (waN t E i 1)))] [] (G, (mI A, j), cc) P) ∧ (((waN t E i 1) = 0) → ((A 18 0) < 2147483648) ∧ ((((A 18 0) < 8) → EvP X (d + 5) gvm_2 42 [some (.ref 260), some (.int (nI (waN t E i 1)))] [] (G, (mI A, j), cc) P) ∧ ((8 ≤ (A 18 0)) → (∀ A5 : Nat → Nat → Nat, A5 = (gu A 258 3 (A 258 4)) → P (.inl (some (.int (zo false))), (G, (mI A5, j), cc)))))))))))) : EvP X (d + 5) gvm_2 0 (gv_enter [.ref 260] 2) [] (G, (mI A, j), cc) P :=
  (pv_aload_n rfl rfl   (pv_getP rfl rfl (oX0_k hp260) (oX0_0 hp260)   (pv_ldcS rfl   (pv_virt rfl rfl rfl rfl rfl (oX7_k (oX0_0c hp260)) rfl rfl rfl (c_wordAmong (q := 1) (t := t) (E := E) (i := i) (A := A) (oX0_0c hp260) H.1 H.2.1 ) (pv_istore_n rfl rfl   (pv_iload_n rfl rfl   (pn_iconst (u := 4294967295) rfl (by decide)   (pn_ic_eq rfl H.2.2.1 (by decide) (fun c1 => (pv_aload_n rfl rfl   (pv_getP rfl rfl (oX0_k hp260) (oX0_0 hp260)   (match (⟨(gu A 258 3 (A 258 4)), rfl⟩ : ∃ Z : Nat → Nat → Nat, Z = (gu A 258 3 (A 258 4))) with | ⟨A2, q2⟩ => pv_virt rfl rfl rfl rfl rfl (oX7_k (oX0_0c hp260)) rfl rfl rfl (ev_eqM q2 (c_refuse (A := A) (oX0_0c hp260) )) (pv_iretz rfl rfl (zo_b _) ((H.2.2.2.1 c1) A2 q2)))))) (fun c1 => (pv_iload_n rfl rfl   (pn_if_ne rfl (H.2.2.2.2 c1).1 (fun c3 => ((H.2.2.2.2 c1).2.1 c3)) (fun c3 => (pv_aload_n rfl rfl   (pv_getP rfl rfl (oX0_k hp260) (oX0_1 hp260)   (pv_getP rfl rfl (oX10_k (oX0_1c hp260)) (oX10_0 (oX0_1c hp260))   (pn_getI rfl rfl (oX6_k (oX10_0c (oX0_1c hp260))) rfl   (pn_bipush rfl rfl   (pn_ic_lt rfl ((H.2.2.2.2 c1).2.2 c3).1 (by decide) (fun c4 => (((H.2.2.2.2 c1).2.2 c3).2.1 c4)) (fun c4 => (pv_aload_n rfl rfl   (pv_getP rfl rfl (oX0_k hp260) (oX0_0 hp260)   (match (⟨(gu A 258 3 (A 258 4)), rfl⟩ : ∃ Z : Nat → Nat → Nat, Z = (gu A 258 3 (A 258 4))) with | ⟨A5, q5⟩ => pv_virt rfl rfl rfl rfl rfl (oX7_k (oX0_0c hp260)) rfl rfl rfl (ev_eqM q5 (c_refuse (A := A) (oX0_0c hp260) )) (pv_iretz rfl rfl (zo_b _) ((((H.2.2.2.2 c1).2.2 c3).2.2 c4) A5 q5))))))))))))))))))))))))
theorem w2_42 {X : gv_X} {d : Nat} {G : gv_Sh} {A : Nat → Nat → Nat} {j : Nat → Nat → Int64} {cc : gv_Rs} {P : gv_O × gv_S → Prop} {l1 : Nat} {t : Nat → Nat} {E : Nat} {i : Nat} {R : Nat → Nat} (hp260 : oX0 G 260) (H : (tI A t E) ∧ ((A 258 2 = (tkE t E i)) ∧ (((tkE t E i) ≤ E) ∧ ((∀ A1v1 : Nat → Nat → Nat, ((kI A1v1 t E (tkE t E i)) ∧ (frR A A1v1)) → (l1 < 4294967296) ∧ ((l1 = 0 → (kI A1v1 t E (tkE t E i)) ∧ ((okW R) ∧ ((rW A1v1 17 R) ∧ ((R 0 < 8) ∧ ((∀ A1v2 : Nat → Nat → Nat, ∀ b1v2 : Bool, ((bkP A1v1 A1v2 t E b1v2 (opS t E R (tkE t E i) 0))) → P (.inl (some (.int (zo b1v2))), (G, (mI A1v2, j), cc)))))))) ∧ (l1 = 1 → (kI A1v1 t E (tkE t E i)) ∧ ((okW R) ∧ ((rW A1v1 17 R) ∧ ((∀ A1v3 : Nat → Nat → Nat, ∀ b1v3 : Bool, ((bkP A1v1 A1v3 t E b1v3 (pgS t E 12 R 0 (tkE t E i)))) → P (.inl (some (.int (zo b1v3))), (G, (mI A1v3, j), cc))))))) ∧ (l1 = 2 → (kI A1v1 t E (tkE t E i)) ∧ ((okW R) ∧ ((rW A1v1 17 R) ∧ ((∀ A1v4 : Nat → Nat → Nat, ∀ b1v4 : Bool, ((bkP A1v1 A1v4 t E b1v4 (ceS t E 9 R 0 (tkE t E i)))) → P (.inl (some (.int (zo b1v4))), (G, (mI A1v4, j), cc))))))) ∧ ((l1 < 0 ∨ 2 < l1) → (3 ≤ l1 ∧ l1 ≤ 7) ∧ ((kI A1v1 t E (tkE t E i)) ∧ ((okW R) ∧ ((rW A1v1 17 R) ∧ ((∀ A1v5 : Nat → Nat → Nat, ∀ b1v5 : Bool, ((bkP A1v1 A1v5 t E b1v5 (stS t E R (tkE t E i) l1))) → P (.inl (some (.int (zo b1v5))), (G, (mI A1v5, j), cc)))))))))))))) : EvP X (d + 5) gvm_2 42 [some (.ref 260), some (.int (nI l1))] [] (G, (mI A, j), cc) P :=
  (pv_aload_n rfl rfl   (pv_getP rfl rfl (oX0_k hp260) (oX0_0 hp260)   (match (c_step (t := t) (E := E) (i := (tkE t E i)) (A := A) (X := X) (d := d + 2) (G := G) (j := j) (cc := cc) (oX0_0c hp260) H.1 H.2.1 H.2.2.1 ) with | ⟨A1v1, e5x46, h1⟩ => pv_virt rfl rfl rfl rfl rfl (oX7_k (oX0_0c hp260)) rfl rfl rfl e5x46 (pv_iload_n rfl rfl   (Or.elim (Decidable.em (l1 = 0)) (fun c2e => (pn_tswl 0 76 rfl c2e (by decide) (by decide) rfl rfl (pv_aload_n rfl rfl   (match (c_readOp (t := t) (E := E) (i := (tkE t E i)) (R := R) (A := A1v1) (X := X) (d := d + 0) (G := G) (j := j) (cc := cc) hp260 ((H.2.2.2 A1v1 h1).2.1 c2e).1 ((H.2.2.2 A1v1 h1).2.1 c2e).2.1 ((H.2.2.2 A1v1 h1).2.1 c2e).2.2.1 ((H.2.2.2 A1v1 h1).2.1 c2e).2.2.2.1 ) with | ⟨A1v2, b1v2, e2x77, h3⟩ => pv_virt rfl rfl rfl rfl rfl (oX0_k hp260) rfl rfl rfl e2x77 (pv_iretz rfl rfl (zo_b _) (((H.2.2.2 A1v1 h1).2.1 c2e).2.2.2.2 A1v2 b1v2 h3)))))) (fun c2n0 => (Or.elim (Decidable.em (l1 = 1)) (fun c2e => (pn_tswl 1 81 rfl c2e (by decide) (by decide) rfl rfl (pv_aload_n rfl rfl   (match (c_readProgram (t := t) (E := E) (i := (tkE t E i)) (R := R) (A := A1v1) (X := X) (d := d + 1) (G := G) (j := j) (cc := cc) hp260 ((H.2.2.2 A1v1 h1).2.2.1 c2e).1 ((H.2.2.2 A1v1 h1).2.2.1 c2e).2.1 ((H.2.2.2 A1v1 h1).2.2.1 c2e).2.2.1 ) with | ⟨A1v3, b1v3, e3x82, h4⟩ => pv_virt rfl rfl rfl rfl rfl (oX0_k hp260) rfl rfl rfl e3x82 (pv_iretz rfl rfl (zo_b _) (((H.2.2.2 A1v1 h1).2.2.1 c2e).2.2.2 A1v3 b1v3 h4)))))) (fun c2n1 => (Or.elim (Decidable.em (l1 = 2)) (fun c2e => (pn_tswl 2 86 rfl c2e (by decide) (by decide) rfl rfl (pv_aload_n rfl rfl   (match (c_readCells (t := t) (E := E) (i := (tkE t E i)) (R := R) (A := A1v1) (X := X) (d := d + 1) (G := G) (j := j) (cc := cc) hp260 ((H.2.2.2 A1v1 h1).2.2.2.1 c2e).1 ((H.2.2.2 A1v1 h1).2.2.2.1 c2e).2.1 ((H.2.2.2 A1v1 h1).2.2.2.1 c2e).2.2.1 ) with | ⟨A1v4, b1v4, e4x87, h5⟩ => pv_virt rfl rfl rfl rfl rfl (oX0_k hp260) rfl rfl rfl e4x87 (pv_iretz rfl rfl (zo_b _) (((H.2.2.2 A1v1 h1).2.2.2.1 c2e).2.2.2 A1v4 b1v4 h5)))))) (fun c2n2 => (have c2d : l1 < 0 ∨ 2 < l1 := (by omega); pn_tswlD 0 2 91 rfl rfl rfl (by decide) (H.2.2.2 A1v1 h1).1 c2d rfl (pv_aload_n rfl rfl   (pv_iload_n rfl rfl   (match (c_readSetting (w := l1) (t := t) (E := E) (i := (tkE t E i)) (R := R) (A := A1v1) (X := X) (d := d + 1) (G := G) (j := j) (cc := cc) hp260 ((H.2.2.2 A1v1 h1).2.2.2.2 c2d).1 ((H.2.2.2 A1v1 h1).2.2.2.2 c2d).2.1 ((H.2.2.2 A1v1 h1).2.2.2.2 c2d).2.2.1 ((H.2.2.2 A1v1 h1).2.2.2.2 c2d).2.2.2.1 ) with | ⟨A1v5, b1v5, e5x93, h6⟩ => pv_virt rfl rfl rfl rfl rfl (oX0_k hp260) rfl rfl rfl e5x93 (pv_iretz rfl rfl (zo_b _) (((H.2.2.2 A1v1 h1).2.2.2.2 c2d).2.2.2.2 A1v5 b1v5 h6))))))))))))))))
theorem c_readLine_p {X : gv_X} {d : Nat} {G : gv_Sh} {A : Nat → Nat → Nat} {j : Nat → Nat → Int64} {cc : gv_Rs} {P : gv_O × gv_S → Prop} {t : Nat → Nat} {E : Nat} {i : Nat} {R : Nat → Nat} (hp260 : oX0 G 260) (p0 : kI A t E i) (p1 : okW R) (p2 : rW A 17 R) (hP : ∀ A1 : Nat → Nat → Nat, ∀ b1 : Bool, (bkP A A1 t E b1 (blS t E R (ltE t E (skB t E i)) (skB t E i))) → P (.inl (some (.int (zo b1))), (G, (mI A1, j), cc))) : EvP X (d + 5) gvm_2 0 (gv_enter [.ref 260] 2) [] (G, (mI A, j), cc) P := by
  have be := tkE_b (t := t) p0.2.1
  have n := okW_n p1
  have b8 : A 18 0 = R 0 := p2.1.1
  obtain ⟨wd, hw⟩ : ∃ w, w = bwR t (skB t E i) (ltE t E (skB t E i)) := ⟨_, rfl⟩
  have wl : wd = 4294967295 ∨ wd ≤ 7 := by
    rw [hw]; unfold bwR; (repeat' split) <;> omega
  have k2 : wd ≠ 4294967295 → tkK t E i = 2 := fun z => by
    rw [hw, ← wa_b p0.2.1] at z
    unfold waN at z
    by_cases y : tkK t E i = 2
    · exact y
    · rw [if_neg y] at z; exact absurd rfl z
  have bl : wd ≠ 4294967295 → (blS t E R (ltE t E (skB t E i)) (skB t E i)) = if wd = 0 then opS t E R (tkE t E i) (skB t E i) else if wd = 1 then pgS t E 12 R 0 (tkE t E i) else if wd = 2 then ceS t E 9 R 0 (tkE t E i) else stS t E R (tkE t E i) wd := fun z => by
    rw [tkE_2 (k2 z)]
    rw [hw] at z ⊢
    unfold bwR at z ⊢
    unfold blS
    by_cases c0 : mt t (skB t E i) (ltE t E (skB t E i)) 22 = true
    · rw [if_pos c0, if_pos c0, if_pos rfl]
    · rw [if_neg c0, if_neg c0]
      by_cases c1 : mt t (skB t E i) (ltE t E (skB t E i)) 23 = true
      · rw [if_pos c1, if_pos c1]; rfl
      · rw [if_neg c1, if_neg c1]
        by_cases c2 : mt t (skB t E i) (ltE t E (skB t E i)) 24 = true
        · rw [if_pos c2, if_pos c2]; rfl
        · rw [if_neg c2, if_neg c2]
          by_cases c3 : mt t (skB t E i) (ltE t E (skB t E i)) 25 = true
          · rw [if_pos c3, if_pos c3]; rfl
          · rw [if_neg c3, if_neg c3]
            by_cases c4 : mt t (skB t E i) (ltE t E (skB t E i)) 26 = true
            · rw [if_pos c4, if_pos c4]; rfl
            · rw [if_neg c4, if_neg c4]
              by_cases c5 : mt t (skB t E i) (ltE t E (skB t E i)) 27 = true
              · rw [if_pos c5, if_pos c5]; rfl
              · rw [if_neg c5, if_neg c5]
                by_cases c6 : mt t (skB t E i) (ltE t E (skB t E i)) 28 = true
                · rw [if_pos c6, if_pos c6]; rfl
                · rw [if_neg c6, if_neg c6]
                  by_cases c7 : mt t (skB t E i) (ltE t E (skB t E i)) 29 = true
                  · rw [if_pos c7, if_pos c7]; rfl
                  · rw [if_neg c0, if_neg c1, if_neg c2, if_neg c3, if_neg c4, if_neg c5, if_neg c6, if_neg c7] at z
                    exact absurd rfl z
  have bl9 : wd = 4294967295 → (blS t E R (ltE t E (skB t E i)) (skB t E i)) = (false, R, ltE t E (skB t E i), skB t E i) := fun z => by
    rw [hw] at z
    unfold bwR at z
    unfold blS
    by_cases c0 : mt t (skB t E i) (ltE t E (skB t E i)) 22 = true
    · rw [if_pos c0] at z; cases z
    · rw [if_neg c0] at z ⊢
      by_cases c1 : mt t (skB t E i) (ltE t E (skB t E i)) 23 = true
      · rw [if_pos c1] at z; cases z
      · rw [if_neg c1] at z ⊢
        by_cases c2 : mt t (skB t E i) (ltE t E (skB t E i)) 24 = true
        · rw [if_pos c2] at z; cases z
        · rw [if_neg c2] at z ⊢
          by_cases c3 : mt t (skB t E i) (ltE t E (skB t E i)) 25 = true
          · rw [if_pos c3] at z; cases z
          · rw [if_neg c3] at z ⊢
            by_cases c4 : mt t (skB t E i) (ltE t E (skB t E i)) 26 = true
            · rw [if_pos c4] at z; cases z
            · rw [if_neg c4] at z ⊢
              by_cases c5 : mt t (skB t E i) (ltE t E (skB t E i)) 27 = true
              · rw [if_pos c5] at z; cases z
              · rw [if_neg c5] at z ⊢
                by_cases c6 : mt t (skB t E i) (ltE t E (skB t E i)) 28 = true
                · rw [if_pos c6] at z; cases z
                · rw [if_neg c6] at z ⊢
                  by_cases c7 : mt t (skB t E i) (ltE t E (skB t E i)) 29 = true
                  · rw [if_pos c7] at z; cases z
                  · rw [if_neg c7]
  have K : wd ≠ 4294967295 → (wd = 0 → R 0 < 8) → EvP X (d + 5) gvm_2 42 [some (.ref 260), some (.int (nI wd))] [] (G, (mI A, j), cc) P := fun z z0 => by
    refine w2_42 (t := t) (E := E) (i := i) (R := R) hp260 ⟨p0.1, p0.2.2.2.1, be.2, fun B h => ?_⟩
    have rB : rW B 17 R := rW_fr p2 (fun q a b => h.2.1 q (by omega))
    refine ⟨by omega, fun c => ⟨h.1, p1, rB, z0 c, fun C b hC => hP C b (bkP_pre h.2 ?_)⟩, fun c => ⟨h.1, p1, rB, fun C b hC => hP C b (bkP_pre h.2 ?_)⟩, fun c => ⟨h.1, p1, rB, fun C b hC => hP C b (bkP_pre h.2 ?_)⟩, fun c => ⟨by omega, h.1, p1, rB, fun C b hC => hP C b (bkP_pre h.2 ?_)⟩⟩
    · have := z0 c
      rw [bl z, if_pos c, opS_0 (by omega)]; exact hC
    · rw [bl z, if_neg (by omega), if_pos c]; exact hC
    · rw [bl z, if_neg (by omega), if_neg (by omega), if_pos c]; exact hC
    · rw [bl z, if_neg (by omega), if_neg (by omega), if_neg (by omega)]; exact hC
  refine w2 (t := t) (E := E) (i := i) hp260 ?_
  rw [wa_b p0.2.1, ← hw]
  refine ⟨p0, by decide, by omega, fun c1 C hC => ?_, fun c1 => ⟨by omega, fun c2 => K c1 (fun z => absurd z c2), fun c2 => ⟨by omega, fun c3 => K c1 (fun _ => by omega), fun c3 C hC => ?_⟩⟩⟩
  · obtain ⟨u1, u2, u3⟩ := ref_k p0 hC
    refine hP C false ?_
    rw [bl9 c1]
    exact bkP_f u1 rfl u2 (fun q a b => u3 q b)
  · obtain ⟨u1, u2, u3⟩ := ref_k p0 hC
    refine hP C false ?_
    rw [bl c1, if_pos c2]
    unfold opS
    rw [if_pos (by omega)]
    exact bkP_f u1 rfl u2 (fun q a b => u3 q b)
theorem c_readLine {X : gv_X} {d : Nat} {G : gv_Sh} {A : Nat → Nat → Nat} {j : Nat → Nat → Int64} {cc : gv_Rs} {t : Nat → Nat} {E : Nat} {i : Nat} {R : Nat → Nat} (hp260 : oX0 G 260) (p0 : kI A t E i) (p1 : okW R) (p2 : rW A 17 R) : ∃ A1 : Nat → Nat → Nat, ∃ b1 : Bool, Ev X (d + 5) gvm_2 0 (gv_enter [.ref 260] 2) [] (G, (mI A, j), cc) (.inl (some (.int (zo b1))), (G, (mI A1, j), cc)) ∧ (bkP A A1 t E b1 (blS t E R (ltE t E (skB t E i)) (skB t E i))) := by
  obtain ⟨_, h, A1, b1, rfl, hp⟩ := c_readLine_p (X := X) (d := d) (G := G) (A := A) (j := j) (cc := cc) (t := t) (E := E) (i := i) (R := R) (P := fun r => ∃ A1 : Nat → Nat → Nat, ∃ b1 : Bool, r = (.inl (some (.int (zo b1))), (G, (mI A1, j), cc)) ∧ (bkP A A1 t E b1 (blS t E R (ltE t E (skB t E i)) (skB t E i)))) hp260 p0 p1 p2 (fun A1 b1 h => ⟨A1, b1, rfl, h⟩)
  exact ⟨A1, b1, h, hp⟩
