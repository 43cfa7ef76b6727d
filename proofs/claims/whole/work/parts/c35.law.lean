/-! the class: conditions of the law -/
def ntS (t : Nat → Nat) (E f k i : Nat) : LwS := if k = 6 then (false, [], 0, skB t E i) else if (pG t E f 0 (k + 1) (tkE t E i)).1 = true then (true, (pG t E f 0 (k + 1) (tkE t E i)).2.1 ++ [(14, 0)], (pG t E f 0 (k + 1) (tkE t E i)).2.2) else (false, [], 0, (pG t E f 0 (k + 1) (tkE t E i)).2.2.2)
def grS (t : Nat → Nat) (E f k i : Nat) : LwS := if k = 6 then (false, [], 0, skB t E i) else if (pG t E f 2 (k + 1) (tkE t E i)).1 = true then (if sgB t E (pG t E f 2 (k + 1) (tkE t E i)).2.2.1 41 = true then (true, (pG t E f 2 (k + 1) (tkE t E i)).2.1, sgE t E (pG t E f 2 (k + 1) (tkE t E i)).2.2.1 41, skB t E (pG t E f 2 (k + 1) (tkE t E i)).2.2.1) else (false, [], 0, skB t E (pG t E f 2 (k + 1) (tkE t E i)).2.2.1)) else (false, [], 0, (pG t E f 2 (k + 1) (tkE t E i)).2.2.2)
theorem wq_ps {t : Nat → Nat} {E i q : Nat} (h : i ≤ E) (e : psB t E i q = true) (hw : 1 ≤ wl q) : tkK t E i = 2 ∧ psE t E i q = tkE t E i ∧ tkE t E i = skB t E i + wl q := by
  have w := psE_w h e
  have b := skB_b (t := t) h
  have p : psE t E i q = ltE t E (skB t E i) := by unfold psE; rw [if_pos e]
  have k2 : tkK t E i = 2 := (tkK_2 h).mpr (by omega)
  exact ⟨k2, by rw [p, tkE_2 k2], by rw [tkE_2 k2, ← p]; exact w.1⟩
theorem flR_t {t : Nat → Nat} {b e : Nat} : tgR t b e = if flR t b e = 4294967295 then 4294967295 else 7 + flR t b e := by
  unfold tgR flR
  by_cases h1 : mt t b e 2 = true
  · rw [if_pos h1, if_pos h1]; rfl
  · rw [if_neg h1, if_neg h1]
    by_cases h2 : mt t b e 36 = true
    · rw [if_pos h2, if_pos h2]; rfl
    · rw [if_neg h2, if_neg h2]
      by_cases h3 : mt t b e 37 = true
      · rw [if_pos h3, if_pos h3]; rfl
      · rw [if_neg h3, if_neg h3]; rfl
theorem flR_le {t : Nat → Nat} {b e : Nat} : flR t b e = 4294967295 ∨ flR t b e ≤ 2 := by
  unfold flR; (repeat' split) <;> omega
theorem w30 {X : gv_X} {d : Nat} {G : gv_Sh} {A : Nat → Nat → Nat} {j : Nat → Nat → Int64} {cc : gv_Rs} {P : gv_O × gv_S → Prop} {k : Nat} {t : Nat → Nat} {E : Nat} {i : Nat} (hp261 : oX3 G 261) {f : Nat} (hAt : ∀ {A : Nat → Nat → Nat} {i : Nat}, (kI A t E i) → (lnI A) → (A 64 2 + 1 ≤ i) → ((k + 1) ≤ 6) → (5 * (E - i) + 1 ≤ f) → ∃ A1 : Nat → Nat → Nat, Ev X (d + 3) gvm_29 0 (gv_enter [.ref 261, .int (nI (k + 1))] 3) [] (G, (mI A, j), cc) (.inl (some (.int (zo ((pG t E f 0 (k + 1) i).1)))), (G, (mI A1, j), cc)) ∧ (lwQ A A1 t E (pG t E f 0 (k + 1) i))) (H : (k < 2147483648) ∧ (((k < 6) → (tI A t E) ∧ ((A 258 2 = (tkE t E i)) ∧ (((tkE t E i) ≤ E) ∧ ((∀ A1v1 : Nat → Nat → Nat, ((kI A1v1 t E (tkE t E i)) ∧ (frR A A1v1)) → (kI A1v1 t E (tkE t E i)) ∧ ((lnI A1v1) ∧ ((A1v1 64 2 + 1 ≤ (tkE t E i)) ∧ (((k + 1) ≤ 6) ∧ ((5 * (E - (tkE t E i)) + 1 ≤ f) ∧ ((∀ A1v2 : Nat → Nat → Nat, ((lwQ A1v1 A1v2 t E (pG t E f 0 (k + 1) (tkE t E i)))) → ((((pG t E f 0 (k + 1) (tkE t E i)).1) = true) → (1 ≤ A1v2 64 1 ∧ A1v2 64 1 ≤ 12) ∧ ((A1v2 64 2 < 400) ∧ ((∀ A5 : Nat → Nat → Nat, A5 = (adC A1v2 25) → P (.inl (some (.int (nI 1))), (G, (mI A5, j), cc)))))) ∧ ((((pG t E f 0 (k + 1) (tkE t E i)).1) = false) → P (.inl (some (.int (nI 0))), (G, (mI A1v2, j), cc)))))))))))))) ∧ ((6 ≤ k) → (∀ A6 : Nat → Nat → Nat, A6 = (gu A 258 3 (A 258 4)) → P (.inl (some (.int (zo false))), (G, (mI A6, j), cc)))))) : EvP X (d + 4) gvm_30 0 (gv_enter [.ref 261, .int (nI k)] 2) [] (G, (mI A, j), cc) P :=
  (pv_iload_n rfl rfl   (pn_bipush rfl rfl   (pn_ic_lt rfl H.1 (by decide) (fun c1 => (pv_aload_n rfl rfl   (pv_getP rfl rfl (oX3_k hp261) (oX3_0 hp261)   (match (c_step (t := t) (E := E) (i := (tkE t E i)) (A := A) (X := X) (d := d + 1) (G := G) (j := j) (cc := cc) (oX3_0c hp261) (H.2.1 c1).1 (H.2.1 c1).2.1 (H.2.1 c1).2.2.1 ) with | ⟨A1v1, e3x18, h2⟩ => pv_virt rfl rfl rfl rfl rfl (oX7_k (oX3_0c hp261)) rfl rfl rfl e3x18 (pv_aload_n rfl rfl   (pv_iload_n rfl rfl   (pn_iconst rfl rfl   (pn_iadd rfl   (match (hAt (A := A1v1) ((H.2.1 c1).2.2.2 A1v1 h2).1 ((H.2.1 c1).2.2.2 A1v1 h2).2.1 ((H.2.1 c1).2.2.2 A1v1 h2).2.2.1 ((H.2.1 c1).2.2.2 A1v1 h2).2.2.2.1 ((H.2.1 c1).2.2.2 A1v1 h2).2.2.2.2.1 ) with | ⟨A1v2, e3x25, h3⟩ => pv_virt rfl rfl rfl rfl rfl (oX3_k hp261) rfl rfl rfl e3x25 (pv_if_ne_zo rfl  (fun c4 => (pv_aload_n rfl rfl   (pv_getP rfl rfl (oX3_k hp261) (oX3_1 hp261)   (pn_bipush rfl rfl   (match (⟨(adC A1v2 25), rfl⟩ : ∃ Z : Nat → Nat → Nat, Z = (adC A1v2 25)) with | ⟨A5, q5⟩ => pv_virt rfl rfl rfl rfl rfl (oX8_k (oX3_1c hp261)) rfl rfl rfl (ev_eqM q5 (c_addCode (c := 25) (A := A1v2) (oX3_1c hp261) ((((H.2.1 c1).2.2.2 A1v1 h2).2.2.2.2.2 A1v2 h3).1 c4).1 ((((H.2.1 c1).2.2.2 A1v1 h2).2.2.2.2.2 A1v2 h3).1 c4).2.1 )) (pn_iconst rfl rfl   (pv_iretz rfl rfl (Or.inr rfl) (((((H.2.1 c1).2.2.2 A1v1 h2).2.2.2.2.2 A1v2 h3).1 c4).2.2 A5 q5)))))))) (fun c4 => (pn_iconst rfl rfl   (pv_iretz rfl rfl (Or.inl rfl) ((((H.2.1 c1).2.2.2 A1v1 h2).2.2.2.2.2 A1v2 h3).2 c4)))))))))))))) (fun c1 => (pv_aload_n rfl rfl   (pv_getP rfl rfl (oX3_k hp261) (oX3_0 hp261)   (match (⟨(gu A 258 3 (A 258 4)), rfl⟩ : ∃ Z : Nat → Nat → Nat, Z = (gu A 258 3 (A 258 4))) with | ⟨A6, q6⟩ => pv_virt rfl rfl rfl rfl rfl (oX7_k (oX3_0c hp261)) rfl rfl rfl (ev_eqM q6 (c_refuse (A := A) (oX3_0c hp261) )) (pv_iretz rfl rfl (zo_b _) ((H.2.2 c1) A6 q6)))))))))
theorem c_readNot {X : gv_X} {d : Nat} {G : gv_Sh} {A : Nat → Nat → Nat} {j : Nat → Nat → Int64} {cc : gv_Rs} {P : gv_O × gv_S → Prop} {t : Nat → Nat} {E i k f : Nat} (hp261 : oX3 G 261) (hAt : ∀ {A : Nat → Nat → Nat} {i : Nat}, (kI A t E i) → (lnI A) → (A 64 2 + 1 ≤ i) → ((k + 1) ≤ 6) → (5 * (E - i) + 1 ≤ f) → ∃ A1 : Nat → Nat → Nat, Ev X (d + 3) gvm_29 0 (gv_enter [.ref 261, .int (nI (k + 1))] 3) [] (G, (mI A, j), cc) (.inl (some (.int (zo ((pG t E f 0 (k + 1) i).1)))), (G, (mI A1, j), cc)) ∧ (lwQ A A1 t E (pG t E f 0 (k + 1) i))) (p0 : kI A t E i) (p1 : lnI A) (p2 : A 64 2 + 1 ≤ i) (p3 : k ≤ 6) (p4 : i + 1 ≤ tkE t E i) (p5 : 5 * (E - tkE t E i) + 1 ≤ f) (hP : ∀ A1 : Nat → Nat → Nat, lwQ A A1 t E (ntS t E f k i) → P (.inl (some (.int (zo ((ntS t E f k i).1)))), (G, (mI A1, j), cc))) : EvP X (d + 4) gvm_30 0 (gv_enter [.ref 261, .int (nI k)] 2) [] (G, (mI A, j), cc) P := by
  obtain ⟨g, hg⟩ : ∃ g, g = (pG t E f 0 (k + 1) (tkE t E i)) := ⟨_, rfl⟩
  obtain ⟨r, hr⟩ : ∃ r, r = (ntS t E f k i) := ⟨_, rfl⟩
  have er : r = if k = 6 then (false, [], 0, skB t E i) else if g.1 = true then (true, g.2.1 ++ [(14, 0)], g.2.2) else (false, [], 0, g.2.2.2) := by rw [hr, hg]; rfl
  rw [← hr] at hP
  have hE := p0.1.2.1
  have be := tkE_b (t := t) p0.2.1
  refine w30 (i := i) hp261 hAt ?_
  rw [← hg]
  refine ⟨by omega, fun c => ⟨p0.1, p0.2.2.2.1, be.2, fun B h => ⟨h.1, lnI_ex p1 (exL_nil p1 h.2.1), by rw [h.2.1 64 (by decide)]; omega, by omega, p5, fun C hC => ⟨fun c2 => ?_, fun c2 => ?_⟩⟩⟩, fun c C hC => ?_⟩
  · obtain ⟨kC, c3, exC⟩ := hC.1 c2
    rw [if_neg (by omega), if_pos c2] at er
    have pb := pG_b f 0 (k + 1) _ be.2 (by rw [← hg]; exact c2)
    rw [← hg] at pb
    have exA := exL_app (exL_nil p1 h.2.1) exC
    have lnC := lnI_ex p1 exA
    have d2 : C 64 2 = A 64 2 + g.2.1.length := exA.1
    refine ⟨⟨lnC.1, lnC.2.1⟩, by omega, fun D hD => qz1 (hP D (lwQ_t (by rw [er]) ?_ ?_ ?_)) (by rw [er])⟩
    · rw [er, hD]; exact kI_ad kC
    · rw [hD, adC_q (by decide) (by decide) (by decide)]; exact c3.trans (frR_3 h.2)
    · rw [er, hD]
      exact exL_app exA (exL_ad rfl)
  · obtain ⟨tC, c3⟩ := hC.2.1 c2
    rw [if_neg (by omega), if_neg (by rw [c2]; decide)] at er
    exact qz0 (hP C (lwQ_f (by rw [er]) tC (by rw [er]; exact c3) (frL_tr (fun q a b => h.2.1 q b) hC.2.2))) (by rw [er])
  · obtain ⟨u1, u2, u3⟩ := ref_k p0 hC
    rw [if_pos (by omega)] at er
    have r1 : r.1 = false := by rw [er]
    rw [← r1]
    exact hP C (lwQ_f r1 u1 (by rw [er]; exact u2) (fun q a b => u3 q b))
theorem w31 {X : gv_X} {d : Nat} {G : gv_Sh} {A : Nat → Nat → Nat} {j : Nat → Nat → Int64} {cc : gv_Rs} {P : gv_O × gv_S → Prop} {k : Nat} {t : Nat → Nat} {E : Nat} {i : Nat} (hp261 : oX3 G 261) {f : Nat} (hAn : ∀ {A : Nat → Nat → Nat} {i : Nat}, (kI A t E i) → (lnI A) → (A 64 2 + 1 ≤ i) → ((k + 1) ≤ 6) → (5 * (E - i) + 4 ≤ f) → ∃ A1 : Nat → Nat → Nat, Ev X (d + 3) gvm_27 0 (gv_enter [.ref 261, .int (nI (k + 1))] 3) [] (G, (mI A, j), cc) (.inl (some (.int (zo ((pG t E f 2 (k + 1) i).1)))), (G, (mI A1, j), cc)) ∧ (lwQ A A1 t E (pG t E f 2 (k + 1) i))) (H : (k < 2147483648) ∧ (((k < 6) → (tI A t E) ∧ ((A 258 2 = (tkE t E i)) ∧ (((tkE t E i) ≤ E) ∧ ((∀ A1v1 : Nat → Nat → Nat, ((kI A1v1 t E (tkE t E i)) ∧ (frR A A1v1)) → (kI A1v1 t E (tkE t E i)) ∧ ((lnI A1v1) ∧ ((A1v1 64 2 + 1 ≤ (tkE t E i)) ∧ (((k + 1) ≤ 6) ∧ ((5 * (E - (tkE t E i)) + 4 ≤ f) ∧ ((∀ A1v2 : Nat → Nat → Nat, ((lwQ A1v1 A1v2 t E (pG t E f 2 (k + 1) (tkE t E i)))) → ((((pG t E f 2 (k + 1) (tkE t E i)).1) = true) → (kI A1v2 t E (pG t E f 2 (k + 1) (tkE t E i)).2.2.1) ∧ (((33 ≤ 41 ∧ 41 < 48) ∨ (58 ≤ 41 ∧ 41 < 97)) ∧ ((((sgB t E (pG t E f 2 (k + 1) (tkE t E i)).2.2.1 41) = true) → (tI A1v2 t E) ∧ ((A1v2 258 2 = (tkE t E (pG t E f 2 (k + 1) (tkE t E i)).2.2.1)) ∧ (((tkE t E (pG t E f 2 (k + 1) (tkE t E i)).2.2.1) ≤ E) ∧ ((∀ A1v4 : Nat → Nat → Nat, ((kI A1v4 t E (tkE t E (pG t E f 2 (k + 1) (tkE t E i)).2.2.1)) ∧ (frR A1v2 A1v4)) → P (.inl (some (.int (nI 1))), (G, (mI A1v4, j), cc))))))) ∧ (((sgB t E (pG t E f 2 (k + 1) (tkE t E i)).2.2.1 41) = false) → (∀ A7 : Nat → Nat → Nat, A7 = (gu A1v2 258 3 (A1v2 258 4)) → P (.inl (some (.int (zo false))), (G, (mI A7, j), cc))))))) ∧ ((((pG t E f 2 (k + 1) (tkE t E i)).1) = false) → P (.inl (some (.int (nI 0))), (G, (mI A1v2, j), cc)))))))))))))) ∧ ((6 ≤ k) → (∀ A8 : Nat → Nat → Nat, A8 = (gu A 258 3 (A 258 4)) → P (.inl (some (.int (zo false))), (G, (mI A8, j), cc)))))) : EvP X (d + 4) gvm_31 0 (gv_enter [.ref 261, .int (nI k)] 2) [] (G, (mI A, j), cc) P :=
  (pv_iload_n rfl rfl   (pn_bipush rfl rfl   (pn_ic_lt rfl H.1 (by decide) (fun c1 => (pv_aload_n rfl rfl   (pv_getP rfl rfl (oX3_k hp261) (oX3_0 hp261)   (match (c_step (t := t) (E := E) (i := (tkE t E i)) (A := A) (X := X) (d := d + 1) (G := G) (j := j) (cc := cc) (oX3_0c hp261) (H.2.1 c1).1 (H.2.1 c1).2.1 (H.2.1 c1).2.2.1 ) with | ⟨A1v1, e5x18, h2⟩ => pv_virt rfl rfl rfl rfl rfl (oX7_k (oX3_0c hp261)) rfl rfl rfl e5x18 (pv_aload_n rfl rfl   (pv_iload_n rfl rfl   (pn_iconst rfl rfl   (pn_iadd rfl   (match (hAn (A := A1v1) ((H.2.1 c1).2.2.2 A1v1 h2).1 ((H.2.1 c1).2.2.2 A1v1 h2).2.1 ((H.2.1 c1).2.2.2 A1v1 h2).2.2.1 ((H.2.1 c1).2.2.2 A1v1 h2).2.2.2.1 ((H.2.1 c1).2.2.2 A1v1 h2).2.2.2.2.1 ) with | ⟨A1v2, e5x25, h3⟩ => pv_virt rfl rfl rfl rfl rfl (oX3_k hp261) rfl rfl rfl e5x25 (pv_if_ne_zo rfl  (fun c4 => (pv_aload_n rfl rfl   (pv_getP rfl rfl (oX3_k hp261) (oX3_0 hp261)   (pn_bipush rfl rfl   (pv_virt rfl rfl rfl rfl rfl (oX7_k (oX3_0c hp261)) rfl rfl rfl (c_isSign (c := 41) (t := t) (E := E) (i := (pG t E f 2 (k + 1) (tkE t E i)).2.2.1) (A := A1v2) (oX3_0c hp261) ((((H.2.1 c1).2.2.2 A1v1 h2).2.2.2.2.2 A1v2 h3).1 c4).1 ((((H.2.1 c1).2.2.2 A1v1 h2).2.2.2.2.2 A1v2 h3).1 c4).2.1 ) (pv_if_ne_zo rfl  (fun c5 => (pv_aload_n rfl rfl   (pv_getP rfl rfl (oX3_k hp261) (oX3_0 hp261)   (match (c_step (t := t) (E := E) (i := (tkE t E (pG t E f 2 (k + 1) (tkE t E i)).2.2.1)) (A := A1v2) (X := X) (d := d + 1) (G := G) (j := j) (cc := cc) (oX3_0c hp261) (((((H.2.1 c1).2.2.2 A1v1 h2).2.2.2.2.2 A1v2 h3).1 c4).2.2.1 c5).1 (((((H.2.1 c1).2.2.2 A1v1 h2).2.2.2.2.2 A1v2 h3).1 c4).2.2.1 c5).2.1 (((((H.2.1 c1).2.2.2 A1v1 h2).2.2.2.2.2 A1v2 h3).1 c4).2.2.1 c5).2.2.1 ) with | ⟨A1v4, e4x57, h6⟩ => pv_virt rfl rfl rfl rfl rfl (oX7_k (oX3_0c hp261)) rfl rfl rfl e4x57 (pn_iconst rfl rfl   (pv_iretz rfl rfl (Or.inr rfl) ((((((H.2.1 c1).2.2.2 A1v1 h2).2.2.2.2.2 A1v2 h3).1 c4).2.2.1 c5).2.2.2 A1v4 h6))))))) (fun c5 => (pv_aload_n rfl rfl   (pv_getP rfl rfl (oX3_k hp261) (oX3_0 hp261)   (match (⟨(gu A1v2 258 3 (A1v2 258 4)), rfl⟩ : ∃ Z : Nat → Nat → Nat, Z = (gu A1v2 258 3 (A1v2 258 4))) with | ⟨A7, q7⟩ => pv_virt rfl rfl rfl rfl rfl (oX7_k (oX3_0c hp261)) rfl rfl rfl (ev_eqM q7 (c_refuse (A := A1v2) (oX3_0c hp261) )) (pv_iretz rfl rfl (zo_b _) ((((((H.2.1 c1).2.2.2 A1v1 h2).2.2.2.2.2 A1v2 h3).1 c4).2.2.2 c5) A7 q7)))))))))))) (fun c4 => (pn_iconst rfl rfl   (pv_iretz rfl rfl (Or.inl rfl) ((((H.2.1 c1).2.2.2 A1v1 h2).2.2.2.2.2 A1v2 h3).2 c4)))))))))))))) (fun c1 => (pv_aload_n rfl rfl   (pv_getP rfl rfl (oX3_k hp261) (oX3_0 hp261)   (match (⟨(gu A 258 3 (A 258 4)), rfl⟩ : ∃ Z : Nat → Nat → Nat, Z = (gu A 258 3 (A 258 4))) with | ⟨A8, q8⟩ => pv_virt rfl rfl rfl rfl rfl (oX7_k (oX3_0c hp261)) rfl rfl rfl (ev_eqM q8 (c_refuse (A := A) (oX3_0c hp261) )) (pv_iretz rfl rfl (zo_b _) ((H.2.2 c1) A8 q8)))))))))
theorem c_readGroup {X : gv_X} {d : Nat} {G : gv_Sh} {A : Nat → Nat → Nat} {j : Nat → Nat → Int64} {cc : gv_Rs} {P : gv_O × gv_S → Prop} {t : Nat → Nat} {E i k f : Nat} (hp261 : oX3 G 261) (hAn : ∀ {A : Nat → Nat → Nat} {i : Nat}, (kI A t E i) → (lnI A) → (A 64 2 + 1 ≤ i) → ((k + 1) ≤ 6) → (5 * (E - i) + 4 ≤ f) → ∃ A1 : Nat → Nat → Nat, Ev X (d + 3) gvm_27 0 (gv_enter [.ref 261, .int (nI (k + 1))] 3) [] (G, (mI A, j), cc) (.inl (some (.int (zo ((pG t E f 2 (k + 1) i).1)))), (G, (mI A1, j), cc)) ∧ (lwQ A A1 t E (pG t E f 2 (k + 1) i))) (p0 : kI A t E i) (p1 : lnI A) (p2 : A 64 2 + 1 ≤ i) (p3 : k ≤ 6) (p4 : i + 1 ≤ tkE t E i) (p5 : 5 * (E - tkE t E i) + 4 ≤ f) (hP : ∀ A1 : Nat → Nat → Nat, lwQ A A1 t E (grS t E f k i) → P (.inl (some (.int (zo ((grS t E f k i).1)))), (G, (mI A1, j), cc))) : EvP X (d + 4) gvm_31 0 (gv_enter [.ref 261, .int (nI k)] 2) [] (G, (mI A, j), cc) P := by
  obtain ⟨g, hg⟩ : ∃ g, g = (pG t E f 2 (k + 1) (tkE t E i)) := ⟨_, rfl⟩
  obtain ⟨r, hr⟩ : ∃ r, r = (grS t E f k i) := ⟨_, rfl⟩
  have er : r = if k = 6 then (false, [], 0, skB t E i) else if g.1 = true then (if sgB t E g.2.2.1 41 = true then (true, g.2.1, sgE t E g.2.2.1 41, skB t E g.2.2.1) else (false, [], 0, skB t E g.2.2.1)) else (false, [], 0, g.2.2.2) := by rw [hr, hg]; rfl
  rw [← hr] at hP
  have hE := p0.1.2.1
  have be := tkE_b (t := t) p0.2.1
  refine w31 (i := i) hp261 hAn ?_
  rw [← hg]
  refine ⟨by omega, fun c => ⟨p0.1, p0.2.2.2.1, be.2, fun B h => ⟨h.1, lnI_ex p1 (exL_nil p1 h.2.1), by rw [h.2.1 64 (by decide)]; omega, by omega, p5, fun C hC => ⟨fun c2 => ?_, fun c2 => ?_⟩⟩⟩, fun c C hC => ?_⟩
  · obtain ⟨kC, c3, exC⟩ := hC.1 c2
    rw [if_neg (by omega), if_pos c2] at er
    have pb := pG_b f 2 (k + 1) _ be.2 (by rw [← hg]; exact c2)
    rw [← hg] at pb
    have exA := exL_app (exL_nil p1 h.2.1) exC
    have bg := tkE_b (t := t) pb.2
    refine ⟨kC, by decide, fun c4 => ⟨kC.1, kC.2.2.2.1, bg.2, fun D hD => ?_⟩, fun c4 D hD => ?_⟩
    · rw [if_pos c4] at er
      have e2 := (tkK_s pb.2 (by omega) c4).2
      refine qz1 (hP D (lwQ_t (by rw [er]) ?_ ((frR_3 hD.2).trans (c3.trans (frR_3 h.2))) ?_)) (by rw [er])
      · rw [er]
        show kI D t E (sgE t E g.2.2.1 41)
        unfold sgE; rw [if_pos c4, ← e2]; exact hD.1
      · rw [er]; exact exL_fr exA hD.2.1
    · rw [if_neg (by rw [c4]; decide)] at er
      obtain ⟨u1, u2, u3⟩ := ref_k kC hD
      have r1 : r.1 = false := by rw [er]
      rw [← r1]
      exact hP D (lwQ_f r1 u1 (by rw [er]; exact u2) (fun q a b => (u3 q b).trans (exL_V exA q a b)))
  · obtain ⟨tC, c3⟩ := hC.2.1 c2
    rw [if_neg (by omega), if_neg (by rw [c2]; decide)] at er
    exact qz0 (hP C (lwQ_f (by rw [er]) tC (by rw [er]; exact c3) (frL_tr (fun q a b => h.2.1 q b) hC.2.2))) (by rw [er])
  · obtain ⟨u1, u2, u3⟩ := ref_k p0 hC
    rw [if_pos (by omega)] at er
    have r1 : r.1 = false := by rw [er]
    rw [← r1]
    exact hP C (lwQ_f r1 u1 (by rw [er]; exact u2) (fun q a b => u3 q b))
theorem w29 {X : gv_X} {d : Nat} {G : gv_Sh} {A : Nat → Nat → Nat} {j : Nat → Nat → Int64} {cc : gv_Rs} {P : gv_O × gv_S → Prop} {k : Nat} {t : Nat → Nat} {E : Nat} {i : Nat} (hp261 : oX3 G 261) {f : Nat} (hNo : ∀ {A : Nat → Nat → Nat} {i : Nat}, (kI A t E i) → (lnI A) → (A 64 2 + 1 ≤ i) → (k ≤ 6) → (i + 1 ≤ tkE t E i) → (5 * (E - tkE t E i) + 1 ≤ f) → ∃ A1 : Nat → Nat → Nat, Ev X (d + 4) gvm_30 0 (gv_enter [.ref 261, .int (nI k)] 2) [] (G, (mI A, j), cc) (.inl (some (.int (zo ((ntS t E f k i).1)))), (G, (mI A1, j), cc)) ∧ (lwQ A A1 t E (ntS t E f k i))) (hGr : ∀ {A : Nat → Nat → Nat} {i : Nat}, (kI A t E i) → (lnI A) → (A 64 2 + 1 ≤ i) → (k ≤ 6) → (i + 1 ≤ tkE t E i) → (5 * (E - tkE t E i) + 4 ≤ f) → ∃ A1 : Nat → Nat → Nat, Ev X (d + 4) gvm_31 0 (gv_enter [.ref 261, .int (nI k)] 2) [] (G, (mI A, j), cc) (.inl (some (.int (zo ((grS t E f k i).1)))), (G, (mI A1, j), cc)) ∧ (lwQ A A1 t E (grS t E f k i))) (H : (kI A t E i) ∧ ((1 ≤ 8 ∧ 8 < 11) ∧ (((¬ (waN t E i 8 = 0)) → (kI A t E i) ∧ (((33 ≤ 40 ∧ 40 < 48) ∨ (58 ≤ 40 ∧ 40 < 97)) ∧ ((((sgB t E i 40) = false) → (kI A t E i) ∧ ((1 ≤ 9 ∧ 9 < 11) ∧ (((waN t E i 9) < 4294967296) ∧ ((((waN t E i 9) = 4294967295) → (kI A t E i) ∧ ((lnI A) ∧ ((A 64 2 + 1 ≤ i) ∧ ((∀ A1v4 : Nat → Nat → Nat, ((lwQ A A1v4 t E (cmS t E i))) → P (.inl (some (.int (zo ((cmS t E i).1)))), (G, (mI A1v4, j), cc))))))) ∧ ((¬ (waN t E i 9) = 4294967295) → (1 ≤ A 64 1 ∧ A 64 1 ≤ 12) ∧ ((A 64 2 < 400) ∧ ((∀ A5 : Nat → Nat → Nat, A5 = (adC A (7 + (waN t E i 9))) → (tI A5 t E) ∧ ((A5 258 2 = (tkE t E i)) ∧ (((tkE t E i) ≤ E) ∧ ((∀ A1v6 : Nat → Nat → Nat, ((kI A1v6 t E (tkE t E i)) ∧ (frR A5 A1v6)) → P (.inl (some (.int (nI 1))), (G, (mI A1v6, j), cc)))))))))))))) ∧ (((sgB t E i 40) = true) → (kI A t E i) ∧ ((lnI A) ∧ ((A 64 2 + 1 ≤ i) ∧ ((k ≤ 6) ∧ ((i + 1 ≤ tkE t E i) ∧ ((5 * (E - tkE t E i) + 4 ≤ f) ∧ ((∀ A1v7 : Nat → Nat → Nat, ((lwQ A A1v7 t E (grS t E f k i))) → P (.inl (some (.int (zo ((grS t E f k i).1)))), (G, (mI A1v7, j), cc))))))))))))) ∧ ((waN t E i 8 = 0) → (kI A t E i) ∧ ((lnI A) ∧ ((A 64 2 + 1 ≤ i) ∧ ((k ≤ 6) ∧ ((i + 1 ≤ tkE t E i) ∧ ((5 * (E - tkE t E i) + 1 ≤ f) ∧ ((∀ A1v8 : Nat → Nat → Nat, ((lwQ A A1v8 t E (ntS t E f k i))) → P (.inl (some (.int (zo ((ntS t E f k i).1)))), (G, (mI A1v8, j), cc))))))))))))) : EvP X (d + 5) gvm_29 0 (gv_enter [.ref 261, .int (nI k)] 3) [] (G, (mI A, j), cc) P :=
  (pv_aload_n rfl rfl   (pv_getP rfl rfl (oX3_k hp261) (oX3_0 hp261)   (pv_ldcS rfl   (pv_virt rfl rfl rfl rfl rfl (oX7_k (oX3_0c hp261)) rfl rfl rfl (c_isWord (q := 8) (t := t) (E := E) (i := i) (A := A) (oX3_0c hp261) H.1 H.2.1 ) (pv_if_eq_dc rfl  (fun c1 => (pv_aload_n rfl rfl   (pv_getP rfl rfl (oX3_k hp261) (oX3_0 hp261)   (pn_bipush rfl rfl   (pv_virt rfl rfl rfl rfl rfl (oX7_k (oX3_0c hp261)) rfl rfl rfl (c_isSign (c := 40) (t := t) (E := E) (i := i) (A := A) (oX3_0c hp261) (H.2.2.1 c1).1 (H.2.2.1 c1).2.1 ) (pv_if_eq_zo rfl  (fun c2 => (pv_aload_n rfl rfl   (pv_getP rfl rfl (oX3_k hp261) (oX3_0 hp261)   (pv_ldcS rfl   (pv_virt rfl rfl rfl rfl rfl (oX7_k (oX3_0c hp261)) rfl rfl rfl (c_wordAmong (q := 9) (t := t) (E := E) (i := i) (A := A) (oX3_0c hp261) ((H.2.2.1 c1).2.2.1 c2).1 ((H.2.2.1 c1).2.2.1 c2).2.1 ) (pv_istore_n rfl rfl   (pv_iload_n rfl rfl   (pn_iconst (u := 4294967295) rfl (by decide)   (pn_ic_eq rfl ((H.2.2.1 c1).2.2.1 c2).2.2.1 (by decide) (fun c3 => (pv_aload_n rfl rfl   (match (c_readComparison (t := t) (E := E) (i := i) (A := A) (X := X) (d := d + 1) (G := G) (j := j) (cc := cc) hp261 (((H.2.2.1 c1).2.2.1 c2).2.2.2.1 c3).1 (((H.2.2.1 c1).2.2.1 c2).2.2.2.1 c3).2.1 (((H.2.2.1 c1).2.2.1 c2).2.2.2.1 c3).2.2.1 ) with | ⟨A1v4, e4x72, h4⟩ => pv_virt rfl rfl rfl rfl rfl (oX3_k hp261) rfl rfl rfl e4x72 (pv_iretz rfl rfl (zo_b _) ((((H.2.2.1 c1).2.2.1 c2).2.2.2.1 c3).2.2.2 A1v4 h4))))) (fun c3 => (pv_aload_n rfl rfl   (pv_getP rfl rfl (oX3_k hp261) (oX3_1 hp261)   (pn_bipush rfl rfl   (pv_iload_n rfl rfl   (pn_iadd rfl   (match (⟨(adC A (7 + (waN t E i 9))), rfl⟩ : ∃ Z : Nat → Nat → Nat, Z = (adC A (7 + (waN t E i 9)))) with | ⟨A5, q5⟩ => pv_virt rfl rfl rfl rfl rfl (oX8_k (oX3_1c hp261)) rfl rfl rfl (ev_eqM q5 (c_addCode (c := (7 + (waN t E i 9))) (A := A) (oX3_1c hp261) (((H.2.2.1 c1).2.2.1 c2).2.2.2.2 c3).1 (((H.2.2.1 c1).2.2.1 c2).2.2.2.2 c3).2.1 )) (pv_aload_n rfl rfl   (pv_getP rfl rfl (oX3_k hp261) (oX3_0 hp261)   (match (c_step (t := t) (E := E) (i := (tkE t E i)) (A := A5) (X := X) (d := d + 2) (G := G) (j := j) (cc := cc) (oX3_0c hp261) ((((H.2.2.1 c1).2.2.1 c2).2.2.2.2 c3).2.2 A5 q5).1 ((((H.2.2.1 c1).2.2.1 c2).2.2.2.2 c3).2.2 A5 q5).2.1 ((((H.2.2.1 c1).2.2.1 c2).2.2.2.2 c3).2.2 A5 q5).2.2.1 ) with | ⟨A1v6, e6x66, h6⟩ => pv_virt rfl rfl rfl rfl rfl (oX7_k (oX3_0c hp261)) rfl rfl rfl e6x66 (pn_iconst rfl rfl   (pv_iretz rfl rfl (Or.inr rfl) (((((H.2.2.1 c1).2.2.1 c2).2.2.2.2 c3).2.2 A5 q5).2.2.2 A1v6 h6)))))))))))))))))))))) (fun c2 => (pv_aload_n rfl rfl   (pv_iload_n rfl rfl   (match (hGr (A := A) ((H.2.2.1 c1).2.2.2 c2).1 ((H.2.2.1 c1).2.2.2 c2).2.1 ((H.2.2.1 c1).2.2.2 c2).2.2.1 ((H.2.2.1 c1).2.2.2 c2).2.2.2.1 ((H.2.2.1 c1).2.2.2 c2).2.2.2.2.1 ((H.2.2.1 c1).2.2.2 c2).2.2.2.2.2.1 ) with | ⟨A1v7, e7x32, h7⟩ => pv_virt rfl rfl rfl rfl rfl (oX3_k hp261) rfl rfl rfl e7x32 (pv_iretz rfl rfl (zo_b _) (((H.2.2.1 c1).2.2.2 c2).2.2.2.2.2.2 A1v7 h7)))))))))))) (fun c1 => (pv_aload_n rfl rfl   (pv_iload_n rfl rfl   (match (hNo (A := A) (H.2.2.2 c1).1 (H.2.2.2 c1).2.1 (H.2.2.2 c1).2.2.1 (H.2.2.2 c1).2.2.2.1 (H.2.2.2 c1).2.2.2.2.1 (H.2.2.2 c1).2.2.2.2.2.1 ) with | ⟨A1v8, e8x14, h8⟩ => pv_virt rfl rfl rfl rfl rfl (oX3_k hp261) rfl rfl rfl e8x14 (pv_iretz rfl rfl (zo_b _) ((H.2.2.2 c1).2.2.2.2.2.2 A1v8 h8)))))))))))
theorem c_readAtom {X : gv_X} {d : Nat} {G : gv_Sh} {A : Nat → Nat → Nat} {j : Nat → Nat → Int64} {cc : gv_Rs} {P : gv_O × gv_S → Prop} {t : Nat → Nat} {E i k f : Nat} (hp261 : oX3 G 261) (hNo : ∀ {A : Nat → Nat → Nat} {i : Nat}, (kI A t E i) → (lnI A) → (A 64 2 + 1 ≤ i) → (k ≤ 6) → (i + 1 ≤ tkE t E i) → (5 * (E - tkE t E i) + 1 ≤ f) → ∃ A1 : Nat → Nat → Nat, Ev X (d + 4) gvm_30 0 (gv_enter [.ref 261, .int (nI k)] 2) [] (G, (mI A, j), cc) (.inl (some (.int (zo ((ntS t E f k i).1)))), (G, (mI A1, j), cc)) ∧ (lwQ A A1 t E (ntS t E f k i))) (hGr : ∀ {A : Nat → Nat → Nat} {i : Nat}, (kI A t E i) → (lnI A) → (A 64 2 + 1 ≤ i) → (k ≤ 6) → (i + 1 ≤ tkE t E i) → (5 * (E - tkE t E i) + 4 ≤ f) → ∃ A1 : Nat → Nat → Nat, Ev X (d + 4) gvm_31 0 (gv_enter [.ref 261, .int (nI k)] 2) [] (G, (mI A, j), cc) (.inl (some (.int (zo ((grS t E f k i).1)))), (G, (mI A1, j), cc)) ∧ (lwQ A A1 t E (grS t E f k i))) (p0 : kI A t E i) (p1 : lnI A) (p2 : A 64 2 + 1 ≤ i) (p3 : k ≤ 6) (p4 : 5 * (E - i) + 1 ≤ (f + 1)) (hP : ∀ A1 : Nat → Nat → Nat, lwQ A A1 t E (pG t E (f + 1) 0 k i) → P (.inl (some (.int (zo ((pG t E (f + 1) 0 k i).1)))), (G, (mI A1, j), cc))) : EvP X (d + 5) gvm_29 0 (gv_enter [.ref 261, .int (nI k)] 3) [] (G, (mI A, j), cc) P := by
  obtain ⟨r, hr⟩ : ∃ r, r = (pG t E (f + 1) 0 k i) := ⟨_, rfl⟩
  rw [← hr] at hP
  have w7 := wl_7
  have hE := p0.1.2.1
  have iE := p0.2.1
  have be := tkE_b (t := t) iE
  have sb := skB_b (t := t) iE
  have er : r = if sgB t E i 40 = true then
      (if k = 6 then (false, [], 0, skB t E i)
       else if (pG t E f 2 (k + 1) (sgE t E i 40)).1 = true then (if sgB t E (pG t E f 2 (k + 1) (sgE t E i 40)).2.2.1 41 = true then (true, (pG t E f 2 (k + 1) (sgE t E i 40)).2.1, sgE t E (pG t E f 2 (k + 1) (sgE t E i 40)).2.2.1 41, skB t E (pG t E f 2 (k + 1) (sgE t E i 40)).2.2.1) else (false, [], 0, skB t E (pG t E f 2 (k + 1) (sgE t E i 40)).2.2.1)) else (false, [], 0, (pG t E f 2 (k + 1) (sgE t E i 40)).2.2.2))
    else if psB t E i 8 = true then
      (if k = 6 then (false, [], 0, skB t E i)
       else if (pG t E f 0 (k + 1) (psE t E i 8)).1 = true then (true, (pG t E f 0 (k + 1) (psE t E i 8)).2.1 ++ [(14, 0)], (pG t E f 0 (k + 1) (psE t E i 8)).2.2) else (false, [], 0, (pG t E f 0 (k + 1) (psE t E i 8)).2.2.2))
    else if ¬ tgR t (skB t E i) (ltE t E (skB t E i)) = 4294967295 then (true, [(tgR t (skB t E i) (ltE t E (skB t E i)), 0)], ltE t E (skB t E i), skB t E i)
    else cmS t E i := by rw [hr]; rfl
  have wn : ¬ psB t E i 8 = true → ¬ waN t E i 8 = 0 := fun z y => z (by rw [← wa_8 iE]; exact decide_eq_true y)
  refine w29 (i := i) hp261 hNo hGr ?_
  rw [wa_f iE]
  refine ⟨p0, by decide, fun c1 => ?_, fun c1 => ?_⟩
  · have n8 : ¬ psB t E i 8 = true := by rw [← wa_8 iE, decide_eq_false c1]; decide
    rw [if_neg n8] at er
    refine ⟨p0, by decide, fun c2 => ?_, fun c2 => ?_⟩
    · have n4 : ¬ sgB t E i 40 = true := by rw [c2]; decide
      rw [if_neg n4] at er
      have fl := flR_le (t := t) (b := skB t E i) (e := ltE t E (skB t E i))
      refine ⟨p0, by decide, by omega, fun c3 => ?_, fun c3 => ?_⟩
      · rw [if_neg (by rw [flR_t, if_pos c3]; decide)] at er
        refine ⟨p0, p1, p2, fun C hC => ?_⟩
        rw [← er] at hC ⊢
        exact hP C hC
      · have tg : tgR t (skB t E i) (ltE t E (skB t E i)) = 7 + flR t (skB t E i) (ltE t E (skB t E i)) := by rw [flR_t, if_neg c3]
        rw [if_pos (by rw [tg]; omega)] at er
        have k2 : tkK t E i = 2 := by
          rw [← wa_f iE] at c3
          unfold waN at c3
          by_cases z : tkK t E i = 2
          · exact z
          · rw [if_neg z] at c3; exact absurd rfl c3
        refine ⟨⟨p1.1, p1.2.1⟩, by omega, fun C hC => ⟨?_, ?_, be.2, fun D hD => ?_⟩⟩
        · rw [hC]; exact (kI_ad p0).1
        · rw [hC, adC_q (by decide) (by decide) (by decide)]; exact p0.2.2.2.1
        · rw [hC] at hD
          refine qz1 (hP D (lwQ_t (by rw [er]) ?_ ?_ ?_)) (by rw [er])
          · rw [er]
            show kI D t E (ltE t E (skB t E i))
            rw [← tkE_2 k2]; exact hD.1
          · rw [frR_3 hD.2, adC_q (by decide) (by decide) (by decide)]
          · rw [er]
            refine exL_fr (exL_ad ?_) hD.2.1
            rw [tg]; unfold cdN; rw [if_pos (by omega)]
    · rw [if_pos c2] at er
      have e2 := (tkK_s iE (by omega) c2).2
      have e3 : sgE t E i 40 = tkE t E i := by unfold sgE; rw [if_pos c2, e2]
      have er' : r = grS t E f k i := by rw [er, e3]; rfl
      refine ⟨p0, p1, p2, p3, by omega, by omega, fun C hC => ?_⟩
      rw [← er'] at hC ⊢
      exact hP C hC
  · have y8 : psB t E i 8 = true := by rw [← wa_8 iE]; exact decide_eq_true c1
    obtain ⟨k2, e3, e4⟩ := wq_ps iE y8 (by omega)
    have n4 : ¬ sgB t E i 40 = true := fun z => by have := (tkK_s iE (by omega) z).1; omega
    rw [if_neg n4, if_pos y8, e3] at er
    have er' : r = ntS t E f k i := er
    refine ⟨p0, p1, p2, p3, by omega, by omega, fun C hC => ?_⟩
    rw [← er'] at hC ⊢
    exact hP C hC
theorem w28 {X : gv_X} {d : Nat} {G : gv_Sh} {A : Nat → Nat → Nat} {j : Nat → Nat → Int64} {cc : gv_Rs} {P : gv_O × gv_S → Prop} {k : Nat} {t : Nat → Nat} {E : Nat} {i : Nat} (hp261 : oX3 G 261) {f : Nat} (hS : ∀ {A : Nat → Nat → Nat} {i : Nat}, (kI A t E i) → (lnI A) → (A 64 2 + 1 ≤ i) → (k ≤ 6) → (5 * (E - i) + 1 ≤ f) → ∃ A1 : Nat → Nat → Nat, Ev X (d + 5) gvm_29 0 (gv_enter [.ref 261, .int (nI k)] 3) [] (G, (mI A, j), cc) (.inl (some (.int (zo ((pG t E f 0 k i).1)))), (G, (mI A1, j), cc)) ∧ (lwQ A A1 t E (pG t E f 0 k i))) (H : (kI A t E i) ∧ ((lnI A) ∧ ((A 64 2 + 1 ≤ i) ∧ ((k ≤ 6) ∧ ((5 * (E - i) + 1 ≤ f) ∧ ((∀ A1v1 : Nat → Nat → Nat, ((lwQ A A1v1 t E (pG t E f 0 k i))) → ((((pG t E f 0 k i).1) = true) → EvP X (d + 6) gvm_28 12 [some (.ref 261), some (.int (nI k)), some (.int (nI 0))] [] (G, (mI A1v1, j), cc) P) ∧ ((((pG t E f 0 k i).1) = false) → P (.inl (some (.int (nI 0))), (G, (mI A1v1, j), cc)))))))))) : EvP X (d + 6) gvm_28 0 (gv_enter [.ref 261, .int (nI k)] 3) [] (G, (mI A, j), cc) P :=
  (pv_aload_n rfl rfl   (pv_iload_n rfl rfl   (match (hS (A := A) H.1 H.2.1 H.2.2.1 H.2.2.2.1 H.2.2.2.2.1 ) with | ⟨A1v1, e1x2, h1⟩ => pv_virt rfl rfl rfl rfl rfl (oX3_k hp261) rfl rfl rfl e1x2 (pv_if_ne_zo rfl  (fun c2 => (pn_iconst rfl rfl   (pv_istore_n rfl rfl   ((H.2.2.2.2.2 A1v1 h1).1 c2)))) (fun c2 => (pn_iconst rfl rfl   (pv_iretz rfl rfl (Or.inl rfl) ((H.2.2.2.2.2 A1v1 h1).2 c2))))))))
theorem w28_12 {X : gv_X} {d : Nat} {G : gv_Sh} {A : Nat → Nat → Nat} {j : Nat → Nat → Int64} {cc : gv_Rs} {P : gv_O × gv_S → Prop} {k : Nat} {l2 : Nat} {t : Nat → Nat} {E : Nat} {i : Nat} (hp261 : oX3 G 261) {f : Nat} (hS : ∀ {A : Nat → Nat → Nat} {i : Nat}, (kI A t E i) → (lnI A) → (A 64 2 + 1 ≤ i) → (k ≤ 6) → (5 * (E - i) + 1 ≤ f) → ∃ A1 : Nat → Nat → Nat, Ev X (d + 5) gvm_29 0 (gv_enter [.ref 261, .int (nI k)] 3) [] (G, (mI A, j), cc) (.inl (some (.int (zo ((pG t E f 0 k i).1)))), (G, (mI A1, j), cc)) ∧ (lwQ A A1 t E (pG t E f 0 k i))) (H : (l2 < 2147483648) ∧ (((400 ≤ l2) → P (.inl (some (.int (nI 1))), (G, (mI A, j), cc))) ∧ ((l2 < 400) → (kI A t E i) ∧ ((1 ≤ 7 ∧ 7 < 11) ∧ (((¬ (waN t E i 7 = 0)) → P (.inl (some (.int (nI 1))), (G, (mI A, j), cc))) ∧ ((waN t E i 7 = 0) → (tI A t E) ∧ ((A 258 2 = (tkE t E i)) ∧ (((tkE t E i) ≤ E) ∧ ((∀ A1v2 : Nat → Nat → Nat, ((kI A1v2 t E (tkE t E i)) ∧ (frR A A1v2)) → (kI A1v2 t E (tkE t E i)) ∧ ((lnI A1v2) ∧ ((A1v2 64 2 + 1 ≤ (tkE t E i)) ∧ ((k ≤ 6) ∧ ((5 * (E - (tkE t E i)) + 1 ≤ f) ∧ ((∀ A1v3 : Nat → Nat → Nat, ((lwQ A1v2 A1v3 t E (pG t E f 0 k (tkE t E i)))) → ((((pG t E f 0 k (tkE t E i)).1) = true) → (1 ≤ A1v3 64 1 ∧ A1v3 64 1 ≤ 12) ∧ ((A1v3 64 2 < 400) ∧ ((∀ A6 : Nat → Nat → Nat, A6 = (adC A1v3 23) → EvP X (d + 6) gvm_28 12 [some (.ref 261), some (.int (nI k)), some (.int (nI (l2 + 1)))] [] (G, (mI A6, j), cc) P)))) ∧ ((((pG t E f 0 k (tkE t E i)).1) = false) → P (.inl (some (.int (nI 0))), (G, (mI A1v3, j), cc))))))))))))))))))) : EvP X (d + 6) gvm_28 12 [some (.ref 261), some (.int (nI k)), some (.int (nI l2))] [] (G, (mI A, j), cc) P :=
  (pv_iload_n rfl rfl   (pn_sipush rfl rfl   (pn_ic_ge rfl H.1 (by decide) (fun c1 => (pn_iconst rfl rfl   (pv_iretz rfl rfl (Or.inr rfl) (H.2.1 c1)))) (fun c1 => (pv_aload_n rfl rfl   (pv_getP rfl rfl (oX3_k hp261) (oX3_0 hp261)   (pv_ldcS rfl   (pv_virt rfl rfl rfl rfl rfl (oX7_k (oX3_0c hp261)) rfl rfl rfl (c_isWord (q := 7) (t := t) (E := E) (i := i) (A := A) (oX3_0c hp261) (H.2.2 c1).1 (H.2.2 c1).2.1 ) (pv_if_eq_dc rfl  (fun c2 => (pn_iconst rfl rfl   (pv_iretz rfl rfl (Or.inr rfl) ((H.2.2 c1).2.2.1 c2)))) (fun c2 => (pv_aload_n rfl rfl   (pv_getP rfl rfl (oX3_k hp261) (oX3_0 hp261)   (match (c_step (t := t) (E := E) (i := (tkE t E i)) (A := A) (X := X) (d := d + 3) (G := G) (j := j) (cc := cc) (oX3_0c hp261) ((H.2.2 c1).2.2.2 c2).1 ((H.2.2 c1).2.2.2 c2).2.1 ((H.2.2 c1).2.2.2 c2).2.2.1 ) with | ⟨A1v2, e4x35, h3⟩ => pv_virt rfl rfl rfl rfl rfl (oX7_k (oX3_0c hp261)) rfl rfl rfl e4x35 (pv_aload_n rfl rfl   (pv_iload_n rfl rfl   (match (hS (A := A1v2) (((H.2.2 c1).2.2.2 c2).2.2.2 A1v2 h3).1 (((H.2.2 c1).2.2.2 c2).2.2.2 A1v2 h3).2.1 (((H.2.2 c1).2.2.2 c2).2.2.2 A1v2 h3).2.2.1 (((H.2.2 c1).2.2.2 c2).2.2.2 A1v2 h3).2.2.2.1 (((H.2.2 c1).2.2.2 c2).2.2.2 A1v2 h3).2.2.2.2.1 ) with | ⟨A1v3, e4x40, h4⟩ => pv_virt rfl rfl rfl rfl rfl (oX3_k hp261) rfl rfl rfl e4x40 (pv_if_ne_zo rfl  (fun c5 => (pv_aload_n rfl rfl   (pv_getP rfl rfl (oX3_k hp261) (oX3_1 hp261)   (pn_bipush rfl rfl   (match (⟨(adC A1v3 23), rfl⟩ : ∃ Z : Nat → Nat → Nat, Z = (adC A1v3 23)) with | ⟨A6, q6⟩ => pv_virt rfl rfl rfl rfl rfl (oX8_k (oX3_1c hp261)) rfl rfl rfl (ev_eqM q6 (c_addCode (c := 23) (A := A1v3) (oX3_1c hp261) (((((H.2.2 c1).2.2.2 c2).2.2.2 A1v2 h3).2.2.2.2.2 A1v3 h4).1 c5).1 (((((H.2.2 c1).2.2.2 c2).2.2.2 A1v2 h3).2.2.2.2.2 A1v3 h4).1 c5).2.1 )) (pn_iinc rfl rfl rfl rfl   (pv_goto rfl ((((((H.2.2 c1).2.2.2 c2).2.2.2 A1v2 h3).2.2.2.2.2 A1v3 h4).1 c5).2.2 A6 q6)))))))) (fun c5 => (pn_iconst rfl rfl   (pv_iretz rfl rfl (Or.inl rfl) (((((H.2.2 c1).2.2.2 c2).2.2.2 A1v2 h3).2.2.2.2.2 A1v3 h4).2 c5)))))))))))))))))))))
theorem c_readAll {X : gv_X} {d : Nat} {G : gv_Sh} {A : Nat → Nat → Nat} {j : Nat → Nat → Int64} {cc : gv_Rs} {P : gv_O × gv_S → Prop} {t : Nat → Nat} {E i k f : Nat} (hp261 : oX3 G 261) (hS : ∀ g, g ≤ f → ∀ {B : Nat → Nat → Nat} {i : Nat}, (kI B t E i) → (lnI B) → (B 64 2 + 1 ≤ i) → (k ≤ 6) → (5 * (E - i) + 1 ≤ g) → ∃ B1 : Nat → Nat → Nat, Ev X (d + 5) gvm_29 0 (gv_enter [.ref 261, .int (nI k)] 3) [] (G, (mI B, j), cc) (.inl (some (.int (zo ((pG t E g 0 k i).1)))), (G, (mI B1, j), cc)) ∧ (lwQ B B1 t E (pG t E g 0 k i))) (p0 : kI A t E i) (p1 : lnI A) (p2 : A 64 2 + 1 ≤ i) (p3 : k ≤ 6) (p4 : 5 * (E - i) + 2 ≤ (f + 1)) (hP : ∀ A1 : Nat → Nat → Nat, lwQ A A1 t E (pG t E (f + 1) 1 k i) → P (.inl (some (.int (zo ((pG t E (f + 1) 1 k i).1)))), (G, (mI A1, j), cc))) : EvP X (d + 6) gvm_28 0 (gv_enter [.ref 261, .int (nI k)] 3) [] (G, (mI A, j), cc) P := by
  obtain ⟨r, hr⟩ : ∃ r, r = (pG t E (f + 1) 1 k i) := ⟨_, rfl⟩
  rw [← hr] at hP
  have w7 := wl_7
  have hE := p0.1.2.1
  have iE := p0.2.1
  have L : ∀ g i c B cs, g ≤ f → 5 * (E - i) + 1 ≤ g → c + 1 ≤ i → kI B t E i → exL A B cs → A 64 2 + cs.length + 1 ≤ i → B 258 3 = A 258 3 → r.1 = (pG t E g 3 k i).1 → r.2.2 = (pG t E g 3 k i).2.2 → ((pG t E g 3 k i).1 = true → r.2.1 = cs ++ (pG t E g 3 k i).2.1) → EvP X (d + 6) gvm_28 12 [some (.ref 261), some (.int (nI k)), some (.int (nI c))] [] (G, (mI B, j), cc) P := by
    intro g
    induction g with
    | zero => intro i c B cs hg hf; omega
    | succ g ih =>
      intro i c B cs hg hf hc k0 ex hb h3 r1 r2 r3
      have iE := k0.2.1
      have be := tkE_b (t := t) iE
      have sb := skB_b (t := t) iE
      have ln := lnI_ex p1 ex
      have b2 : B 64 2 = A 64 2 + cs.length := ex.1
      refine w28_12 (f := g) (i := i) hp261 (hS g (by omega)) ?_
      refine ⟨by omega, fun c0 => absurd c0 (by omega), fun _ => ⟨k0, by decide, fun c1 => ?_, fun c1 => ?_⟩⟩
      · have e0 : psB t E i 7 = false := by rw [← wa_7 iE]; exact decide_eq_false c1
        have e : (pG t E (g + 1) 3 k i) = (true, [], skB t E i, skB t E i) := by unfold pG; rw [if_neg (by decide), if_neg (by decide), if_neg (by decide), if_pos rfl, if_neg (by rw [e0]; decide)]
        rw [e] at r1 r2 r3
        refine qz1 (hP B (lwQ_t r1 ?_ h3 ?_)) r1
        · rw [r2]; exact kI_sk k0 (skB_id iE) sb.2
        · rw [r3 rfl, List.append_nil]; exact ex
      · have e0 : psB t E i 7 = true := by rw [← wa_7 iE]; exact decide_eq_true c1
        obtain ⟨k2, e3, e4⟩ := wq_ps iE e0 (by omega)
        obtain ⟨x, hx⟩ : ∃ x, x = (pG t E g 0 k (tkE t E i)) := ⟨_, rfl⟩
        rw [← hx]
        have st : (pG t E (g + 1) 3 k i) = if x.1 = true then ((pG t E g 3 k x.2.2.1).1, x.2.1 ++ ([(15, 0)] ++ (pG t E g 3 k x.2.2.1).2.1), (pG t E g 3 k x.2.2.1).2.2) else (false, [], 0, x.2.2.2) := by
          show (if _ then _ else _) = _
          rw [if_neg (by decide), if_neg (by decide), if_neg (by decide), if_pos rfl, if_pos e0, e3, ← hx]
        rw [st] at r1 r2 r3
        refine ⟨k0.1, k0.2.2.2.1, be.2, fun C hC => ⟨hC.1, lnI_ex p1 (exL_fr ex hC.2.1), by rw [hC.2.1 64 (by decide)]; omega, p3, by omega, fun D hD => ⟨fun c2 => ?_, fun c2 => ?_⟩⟩⟩
        · obtain ⟨kD, d3, exD⟩ := hD.1 c2
          rw [if_pos c2] at r1 r2 r3
          have pb := pG_b g 0 k _ be.2 (by rw [← hx]; exact c2)
          rw [← hx] at pb
          have exA := exL_app (exL_fr ex hC.2.1) exD
          have lnD := lnI_ex p1 exA
          have d2 : D 64 2 = A 64 2 + (cs ++ x.2.1).length := exA.1
          rw [List.length_append] at d2
          refine ⟨⟨lnD.1, lnD.2.1⟩, by omega, fun F hF => ?_⟩
          rw [hF]
          refine ih x.2.2.1 (c + 1) _ (cs ++ (x.2.1 ++ [(15, 0)])) (by omega) (by omega) (by omega) (kI_ad kD) ?_ ?_ ?_ r1 r2 (fun z => ?_)
          · rw [← List.append_assoc]; exact exL_app exA (exL_ad rfl)
          · rw [List.length_append, List.length_append]
            show A 64 2 + (cs.length + (x.2.1.length + 1)) + 1 ≤ _
            omega
          · rw [adC_q (by decide) (by decide) (by decide)]; exact d3.trans ((frR_3 hC.2).trans h3)
          · rw [r3 z, List.append_assoc, List.append_assoc]
        · obtain ⟨tD, d3⟩ := hD.2.1 c2
          rw [if_neg (by rw [c2]; decide)] at r1 r2 r3
          exact qz0 (hP D (lwQ_f r1 tD (by rw [r2]; exact d3) (frL_tr (exL_V ex) (frL_tr (fun q a b => hC.2.1 q b) hD.2.2)))) r1
  obtain ⟨x, hx⟩ : ∃ x, x = (pG t E f 0 k i) := ⟨_, rfl⟩
  have st : r = if x.1 = true then ((pG t E f 3 k x.2.2.1).1, x.2.1 ++ (pG t E f 3 k x.2.2.1).2.1, (pG t E f 3 k x.2.2.1).2.2) else (false, [], 0, x.2.2.2) := by
    rw [hr]
    show (if _ then _ else _) = _
    rw [if_neg (by decide), if_pos rfl, ← hx]
  refine w28 (f := f) (i := i) hp261 (hS f (Nat.le_refl _)) ?_
  rw [← hx]
  refine ⟨p0, p1, p2, p3, by omega, fun B hB => ⟨fun c2 => ?_, fun c2 => ?_⟩⟩
  · obtain ⟨kB, b3, exB⟩ := hB.1 c2
    rw [if_pos c2] at st
    have pb := pG_b f 0 k _ iE (by rw [← hx]; exact c2)
    rw [← hx] at pb
    refine L f x.2.2.1 0 B x.2.1 (Nat.le_refl _) (by omega) (by omega) kB exB (by omega) b3 (by rw [st]) (by rw [st]) (fun _ => by rw [st])
  · obtain ⟨tB, b3⟩ := hB.2.1 c2
    rw [if_neg (by rw [c2]; decide)] at st
    exact qz0 (hP B (lwQ_f (by rw [st]) tB (by rw [st]; exact b3) hB.2.2)) (by rw [st])
theorem w27 {X : gv_X} {d : Nat} {G : gv_Sh} {A : Nat → Nat → Nat} {j : Nat → Nat → Int64} {cc : gv_Rs} {P : gv_O × gv_S → Prop} {k : Nat} {t : Nat → Nat} {E : Nat} {i : Nat} (hp261 : oX3 G 261) {f : Nat} (hS : ∀ {A : Nat → Nat → Nat} {i : Nat}, (kI A t E i) → (lnI A) → (A 64 2 + 1 ≤ i) → (k ≤ 6) → (5 * (E - i) + 2 ≤ f) → ∃ A1 : Nat → Nat → Nat, Ev X (d + 6) gvm_28 0 (gv_enter [.ref 261, .int (nI k)] 3) [] (G, (mI A, j), cc) (.inl (some (.int (zo ((pG t E f 1 k i).1)))), (G, (mI A1, j), cc)) ∧ (lwQ A A1 t E (pG t E f 1 k i))) (H : (kI A t E i) ∧ ((lnI A) ∧ ((A 64 2 + 1 ≤ i) ∧ ((k ≤ 6) ∧ ((5 * (E - i) + 2 ≤ f) ∧ ((∀ A1v1 : Nat → Nat → Nat, ((lwQ A A1v1 t E (pG t E f 1 k i))) → ((((pG t E f 1 k i).1) = true) → EvP X (d + 7) gvm_27 12 [some (.ref 261), some (.int (nI k)), some (.int (nI 0))] [] (G, (mI A1v1, j), cc) P) ∧ ((((pG t E f 1 k i).1) = false) → P (.inl (some (.int (nI 0))), (G, (mI A1v1, j), cc)))))))))) : EvP X (d + 7) gvm_27 0 (gv_enter [.ref 261, .int (nI k)] 3) [] (G, (mI A, j), cc) P :=
  (pv_aload_n rfl rfl   (pv_iload_n rfl rfl   (match (hS (A := A) H.1 H.2.1 H.2.2.1 H.2.2.2.1 H.2.2.2.2.1 ) with | ⟨A1v1, e1x2, h1⟩ => pv_virt rfl rfl rfl rfl rfl (oX3_k hp261) rfl rfl rfl e1x2 (pv_if_ne_zo rfl  (fun c2 => (pn_iconst rfl rfl   (pv_istore_n rfl rfl   ((H.2.2.2.2.2 A1v1 h1).1 c2)))) (fun c2 => (pn_iconst rfl rfl   (pv_iretz rfl rfl (Or.inl rfl) ((H.2.2.2.2.2 A1v1 h1).2 c2))))))))
theorem w27_12 {X : gv_X} {d : Nat} {G : gv_Sh} {A : Nat → Nat → Nat} {j : Nat → Nat → Int64} {cc : gv_Rs} {P : gv_O × gv_S → Prop} {k : Nat} {l2 : Nat} {t : Nat → Nat} {E : Nat} {i : Nat} (hp261 : oX3 G 261) {f : Nat} (hS : ∀ {A : Nat → Nat → Nat} {i : Nat}, (kI A t E i) → (lnI A) → (A 64 2 + 1 ≤ i) → (k ≤ 6) → (5 * (E - i) + 2 ≤ f) → ∃ A1 : Nat → Nat → Nat, Ev X (d + 6) gvm_28 0 (gv_enter [.ref 261, .int (nI k)] 3) [] (G, (mI A, j), cc) (.inl (some (.int (zo ((pG t E f 1 k i).1)))), (G, (mI A1, j), cc)) ∧ (lwQ A A1 t E (pG t E f 1 k i))) (H : (l2 < 2147483648) ∧ (((400 ≤ l2) → P (.inl (some (.int (nI 1))), (G, (mI A, j), cc))) ∧ ((l2 < 400) → (kI A t E i) ∧ ((1 ≤ 6 ∧ 6 < 11) ∧ (((¬ (waN t E i 6 = 0)) → P (.inl (some (.int (nI 1))), (G, (mI A, j), cc))) ∧ ((waN t E i 6 = 0) → (tI A t E) ∧ ((A 258 2 = (tkE t E i)) ∧ (((tkE t E i) ≤ E) ∧ ((∀ A1v2 : Nat → Nat → Nat, ((kI A1v2 t E (tkE t E i)) ∧ (frR A A1v2)) → (kI A1v2 t E (tkE t E i)) ∧ ((lnI A1v2) ∧ ((A1v2 64 2 + 1 ≤ (tkE t E i)) ∧ ((k ≤ 6) ∧ ((5 * (E - (tkE t E i)) + 2 ≤ f) ∧ ((∀ A1v3 : Nat → Nat → Nat, ((lwQ A1v2 A1v3 t E (pG t E f 1 k (tkE t E i)))) → ((((pG t E f 1 k (tkE t E i)).1) = true) → (1 ≤ A1v3 64 1 ∧ A1v3 64 1 ≤ 12) ∧ ((A1v3 64 2 < 400) ∧ ((∀ A6 : Nat → Nat → Nat, A6 = (adC A1v3 24) → EvP X (d + 7) gvm_27 12 [some (.ref 261), some (.int (nI k)), some (.int (nI (l2 + 1)))] [] (G, (mI A6, j), cc) P)))) ∧ ((((pG t E f 1 k (tkE t E i)).1) = false) → P (.inl (some (.int (nI 0))), (G, (mI A1v3, j), cc))))))))))))))))))) : EvP X (d + 7) gvm_27 12 [some (.ref 261), some (.int (nI k)), some (.int (nI l2))] [] (G, (mI A, j), cc) P :=
  (pv_iload_n rfl rfl   (pn_sipush rfl rfl   (pn_ic_ge rfl H.1 (by decide) (fun c1 => (pn_iconst rfl rfl   (pv_iretz rfl rfl (Or.inr rfl) (H.2.1 c1)))) (fun c1 => (pv_aload_n rfl rfl   (pv_getP rfl rfl (oX3_k hp261) (oX3_0 hp261)   (pv_ldcS rfl   (pv_virt rfl rfl rfl rfl rfl (oX7_k (oX3_0c hp261)) rfl rfl rfl (c_isWord (q := 6) (t := t) (E := E) (i := i) (A := A) (oX3_0c hp261) (H.2.2 c1).1 (H.2.2 c1).2.1 ) (pv_if_eq_dc rfl  (fun c2 => (pn_iconst rfl rfl   (pv_iretz rfl rfl (Or.inr rfl) ((H.2.2 c1).2.2.1 c2)))) (fun c2 => (pv_aload_n rfl rfl   (pv_getP rfl rfl (oX3_k hp261) (oX3_0 hp261)   (match (c_step (t := t) (E := E) (i := (tkE t E i)) (A := A) (X := X) (d := d + 4) (G := G) (j := j) (cc := cc) (oX3_0c hp261) ((H.2.2 c1).2.2.2 c2).1 ((H.2.2 c1).2.2.2 c2).2.1 ((H.2.2 c1).2.2.2 c2).2.2.1 ) with | ⟨A1v2, e4x35, h3⟩ => pv_virt rfl rfl rfl rfl rfl (oX7_k (oX3_0c hp261)) rfl rfl rfl e4x35 (pv_aload_n rfl rfl   (pv_iload_n rfl rfl   (match (hS (A := A1v2) (((H.2.2 c1).2.2.2 c2).2.2.2 A1v2 h3).1 (((H.2.2 c1).2.2.2 c2).2.2.2 A1v2 h3).2.1 (((H.2.2 c1).2.2.2 c2).2.2.2 A1v2 h3).2.2.1 (((H.2.2 c1).2.2.2 c2).2.2.2 A1v2 h3).2.2.2.1 (((H.2.2 c1).2.2.2 c2).2.2.2 A1v2 h3).2.2.2.2.1 ) with | ⟨A1v3, e4x40, h4⟩ => pv_virt rfl rfl rfl rfl rfl (oX3_k hp261) rfl rfl rfl e4x40 (pv_if_ne_zo rfl  (fun c5 => (pv_aload_n rfl rfl   (pv_getP rfl rfl (oX3_k hp261) (oX3_1 hp261)   (pn_bipush rfl rfl   (match (⟨(adC A1v3 24), rfl⟩ : ∃ Z : Nat → Nat → Nat, Z = (adC A1v3 24)) with | ⟨A6, q6⟩ => pv_virt rfl rfl rfl rfl rfl (oX8_k (oX3_1c hp261)) rfl rfl rfl (ev_eqM q6 (c_addCode (c := 24) (A := A1v3) (oX3_1c hp261) (((((H.2.2 c1).2.2.2 c2).2.2.2 A1v2 h3).2.2.2.2.2 A1v3 h4).1 c5).1 (((((H.2.2 c1).2.2.2 c2).2.2.2 A1v2 h3).2.2.2.2.2 A1v3 h4).1 c5).2.1 )) (pn_iinc rfl rfl rfl rfl   (pv_goto rfl ((((((H.2.2 c1).2.2.2 c2).2.2.2 A1v2 h3).2.2.2.2.2 A1v3 h4).1 c5).2.2 A6 q6)))))))) (fun c5 => (pn_iconst rfl rfl   (pv_iretz rfl rfl (Or.inl rfl) (((((H.2.2 c1).2.2.2 c2).2.2.2 A1v2 h3).2.2.2.2.2 A1v3 h4).2 c5)))))))))))))))))))))
theorem c_readAny {X : gv_X} {d : Nat} {G : gv_Sh} {A : Nat → Nat → Nat} {j : Nat → Nat → Int64} {cc : gv_Rs} {P : gv_O × gv_S → Prop} {t : Nat → Nat} {E i k f : Nat} (hp261 : oX3 G 261) (hS : ∀ g, g ≤ f → ∀ {B : Nat → Nat → Nat} {i : Nat}, (kI B t E i) → (lnI B) → (B 64 2 + 1 ≤ i) → (k ≤ 6) → (5 * (E - i) + 2 ≤ g) → ∃ B1 : Nat → Nat → Nat, Ev X (d + 6) gvm_28 0 (gv_enter [.ref 261, .int (nI k)] 3) [] (G, (mI B, j), cc) (.inl (some (.int (zo ((pG t E g 1 k i).1)))), (G, (mI B1, j), cc)) ∧ (lwQ B B1 t E (pG t E g 1 k i))) (p0 : kI A t E i) (p1 : lnI A) (p2 : A 64 2 + 1 ≤ i) (p3 : k ≤ 6) (p4 : 5 * (E - i) + 4 ≤ (f + 1)) (hP : ∀ A1 : Nat → Nat → Nat, lwQ A A1 t E (pG t E (f + 1) 2 k i) → P (.inl (some (.int (zo ((pG t E (f + 1) 2 k i).1)))), (G, (mI A1, j), cc))) : EvP X (d + 7) gvm_27 0 (gv_enter [.ref 261, .int (nI k)] 3) [] (G, (mI A, j), cc) P := by
  obtain ⟨r, hr⟩ : ∃ r, r = (pG t E (f + 1) 2 k i) := ⟨_, rfl⟩
  rw [← hr] at hP
  have w7 := wl_7
  have hE := p0.1.2.1
  have iE := p0.2.1
  have L : ∀ g i c B cs, g ≤ f → 5 * (E - i) + 3 ≤ g → c + 1 ≤ i → kI B t E i → exL A B cs → A 64 2 + cs.length + 1 ≤ i → B 258 3 = A 258 3 → r.1 = (pG t E g 4 k i).1 → r.2.2 = (pG t E g 4 k i).2.2 → ((pG t E g 4 k i).1 = true → r.2.1 = cs ++ (pG t E g 4 k i).2.1) → EvP X (d + 7) gvm_27 12 [some (.ref 261), some (.int (nI k)), some (.int (nI c))] [] (G, (mI B, j), cc) P := by
    intro g
    induction g with
    | zero => intro i c B cs hg hf; omega
    | succ g ih =>
      intro i c B cs hg hf hc k0 ex hb h3 r1 r2 r3
      have iE := k0.2.1
      have be := tkE_b (t := t) iE
      have sb := skB_b (t := t) iE
      have ln := lnI_ex p1 ex
      have b2 : B 64 2 = A 64 2 + cs.length := ex.1
      refine w27_12 (f := g) (i := i) hp261 (hS g (by omega)) ?_
      refine ⟨by omega, fun c0 => absurd c0 (by omega), fun _ => ⟨k0, by decide, fun c1 => ?_, fun c1 => ?_⟩⟩
      · have e0 : psB t E i 6 = false := by rw [← wa_6 iE]; exact decide_eq_false c1
        have e : (pG t E (g + 1) 4 k i) = (true, [], skB t E i, skB t E i) := by unfold pG; rw [if_neg (by decide), if_neg (by decide), if_neg (by decide), if_neg (by decide), if_neg (by rw [e0]; decide)]
        rw [e] at r1 r2 r3
        refine qz1 (hP B (lwQ_t r1 ?_ h3 ?_)) r1
        · rw [r2]; exact kI_sk k0 (skB_id iE) sb.2
        · rw [r3 rfl, List.append_nil]; exact ex
      · have e0 : psB t E i 6 = true := by rw [← wa_6 iE]; exact decide_eq_true c1
        obtain ⟨k2, e3, e4⟩ := wq_ps iE e0 (by omega)
        obtain ⟨x, hx⟩ : ∃ x, x = (pG t E g 1 k (tkE t E i)) := ⟨_, rfl⟩
        rw [← hx]
        have st : (pG t E (g + 1) 4 k i) = if x.1 = true then ((pG t E g 4 k x.2.2.1).1, x.2.1 ++ ([(16, 0)] ++ (pG t E g 4 k x.2.2.1).2.1), (pG t E g 4 k x.2.2.1).2.2) else (false, [], 0, x.2.2.2) := by
          show (if _ then _ else _) = _
          rw [if_neg (by decide), if_neg (by decide), if_neg (by decide), if_neg (by decide), if_pos e0, e3, ← hx]
        rw [st] at r1 r2 r3
        refine ⟨k0.1, k0.2.2.2.1, be.2, fun C hC => ⟨hC.1, lnI_ex p1 (exL_fr ex hC.2.1), by rw [hC.2.1 64 (by decide)]; omega, p3, by omega, fun D hD => ⟨fun c2 => ?_, fun c2 => ?_⟩⟩⟩
        · obtain ⟨kD, d3, exD⟩ := hD.1 c2
          rw [if_pos c2] at r1 r2 r3
          have pb := pG_b g 1 k _ be.2 (by rw [← hx]; exact c2)
          rw [← hx] at pb
          have exA := exL_app (exL_fr ex hC.2.1) exD
          have lnD := lnI_ex p1 exA
          have d2 : D 64 2 = A 64 2 + (cs ++ x.2.1).length := exA.1
          rw [List.length_append] at d2
          refine ⟨⟨lnD.1, lnD.2.1⟩, by omega, fun F hF => ?_⟩
          rw [hF]
          refine ih x.2.2.1 (c + 1) _ (cs ++ (x.2.1 ++ [(16, 0)])) (by omega) (by omega) (by omega) (kI_ad kD) ?_ ?_ ?_ r1 r2 (fun z => ?_)
          · rw [← List.append_assoc]; exact exL_app exA (exL_ad rfl)
          · rw [List.length_append, List.length_append]
            show A 64 2 + (cs.length + (x.2.1.length + 1)) + 1 ≤ _
            omega
          · rw [adC_q (by decide) (by decide) (by decide)]; exact d3.trans ((frR_3 hC.2).trans h3)
          · rw [r3 z, List.append_assoc, List.append_assoc]
        · obtain ⟨tD, d3⟩ := hD.2.1 c2
          rw [if_neg (by rw [c2]; decide)] at r1 r2 r3
          exact qz0 (hP D (lwQ_f r1 tD (by rw [r2]; exact d3) (frL_tr (exL_V ex) (frL_tr (fun q a b => hC.2.1 q b) hD.2.2)))) r1
  obtain ⟨x, hx⟩ : ∃ x, x = (pG t E f 1 k i) := ⟨_, rfl⟩
  have st : r = if x.1 = true then ((pG t E f 4 k x.2.2.1).1, x.2.1 ++ (pG t E f 4 k x.2.2.1).2.1, (pG t E f 4 k x.2.2.1).2.2) else (false, [], 0, x.2.2.2) := by
    rw [hr]
    show (if _ then _ else _) = _
    rw [if_neg (by decide), if_neg (by decide), if_pos rfl, ← hx]
  refine w27 (f := f) (i := i) hp261 (hS f (Nat.le_refl _)) ?_
  rw [← hx]
  refine ⟨p0, p1, p2, p3, by omega, fun B hB => ⟨fun c2 => ?_, fun c2 => ?_⟩⟩
  · obtain ⟨kB, b3, exB⟩ := hB.1 c2
    rw [if_pos c2] at st
    have pb := pG_b f 1 k _ iE (by rw [← hx]; exact c2)
    rw [← hx] at pb
    refine L f x.2.2.1 0 B x.2.1 (Nat.le_refl _) (by omega) (by omega) kB exB (by omega) b3 (by rw [st]) (by rw [st]) (fun _ => by rw [st])
  · obtain ⟨tB, b3⟩ := hB.2.1 c2
    rw [if_neg (by rw [c2]; decide)] at st
    exact qz0 (hP B (lwQ_f (by rw [st]) tB (by rw [st]; exact b3) hB.2.2)) (by rw [st])
theorem c_conds {X : gv_X} {G : gv_Sh} {j : Nat → Nat → Int64} {cc : gv_Rs} {t : Nat → Nat} {E : Nat} (hp261 : oX3 G 261) : ∀ f g, g ≤ f → ∀ k d, (∀ {A : Nat → Nat → Nat} {i : Nat}, (kI A t E i) → (lnI A) → (A 64 2 + 1 ≤ i) → (k ≤ 6) → (5 * (E - i) + 1 ≤ g) → ∃ A1 : Nat → Nat → Nat, Ev X (d + 4 * (6 - k) + 5) gvm_29 0 (gv_enter [.ref 261, .int (nI k)] 3) [] (G, (mI A, j), cc) (.inl (some (.int (zo ((pG t E g 0 k i).1)))), (G, (mI A1, j), cc)) ∧ (lwQ A A1 t E (pG t E g 0 k i))) ∧ (∀ {A : Nat → Nat → Nat} {i : Nat}, (kI A t E i) → (lnI A) → (A 64 2 + 1 ≤ i) → (k ≤ 6) → (5 * (E - i) + 2 ≤ g) → ∃ A1 : Nat → Nat → Nat, Ev X (d + 4 * (6 - k) + 6) gvm_28 0 (gv_enter [.ref 261, .int (nI k)] 3) [] (G, (mI A, j), cc) (.inl (some (.int (zo ((pG t E g 1 k i).1)))), (G, (mI A1, j), cc)) ∧ (lwQ A A1 t E (pG t E g 1 k i))) ∧ (∀ {A : Nat → Nat → Nat} {i : Nat}, (kI A t E i) → (lnI A) → (A 64 2 + 1 ≤ i) → (k ≤ 6) → (5 * (E - i) + 4 ≤ g) → ∃ A1 : Nat → Nat → Nat, Ev X (d + 4 * (6 - k) + 7) gvm_27 0 (gv_enter [.ref 261, .int (nI k)] 3) [] (G, (mI A, j), cc) (.inl (some (.int (zo ((pG t E g 2 k i).1)))), (G, (mI A1, j), cc)) ∧ (lwQ A A1 t E (pG t E g 2 k i))) := by
  intro f
  induction f with
  | zero =>
    intro g hg k d
    obtain rfl : g = 0 := by omega
    refine ⟨fun p0 p1 p2 p3 p4 => by omega, fun p0 p1 p2 p3 p4 => by omega, fun p0 p1 p2 p3 p4 => by omega⟩
  | succ f ih =>
    intro g hg k d
    by_cases hgf : g ≤ f
    · exact ih g hgf k d
    · obtain rfl : g = f + 1 := by omega
      refine ⟨?_, ?_, ?_⟩
      · intro A i p0 p1 p2 p3 p4
        obtain ⟨_, h, A1, rfl, hp⟩ := c_readAtom (X := X) (d := d + 4 * (6 - k)) (G := G) (A := A) (j := j) (cc := cc) (f := f) (k := k) (P := fun r => ∃ A1, r = (.inl (some (.int (zo ((pG t E (f + 1) 0 k i).1)))), (G, (mI A1, j), cc)) ∧ lwQ A A1 t E (pG t E (f + 1) 0 k i)) hp261 (fun {B i} q0 q1 q2 q3 q4 q5 => by
          obtain ⟨_, h, A1, rfl, hp⟩ := c_readNot (X := X) (d := d + 4 * (6 - k)) (G := G) (A := B) (j := j) (cc := cc) (f := f) (k := k) (P := fun r => ∃ A1, r = (.inl (some (.int (zo ((ntS t E f k i).1)))), (G, (mI A1, j), cc)) ∧ lwQ B A1 t E (ntS t E f k i)) hp261 (fun {C i} s0 s1 s2 s3 s4 => by
            have e : d + 4 * (6 - k) + 3 = (d + 2) + 4 * (6 - (k + 1)) + 5 := by omega
            rw [e]
            exact (ih f (Nat.le_refl _) (k + 1) (d + 2)).1 s0 s1 s2 s3 s4) q0 q1 q2 q3 q4 q5 (fun A1 h => ⟨A1, rfl, h⟩)
          exact ⟨A1, h, hp⟩) (fun {B i} q0 q1 q2 q3 q4 q5 => by
          obtain ⟨_, h, A1, rfl, hp⟩ := c_readGroup (X := X) (d := d + 4 * (6 - k)) (G := G) (A := B) (j := j) (cc := cc) (f := f) (k := k) (P := fun r => ∃ A1, r = (.inl (some (.int (zo ((grS t E f k i).1)))), (G, (mI A1, j), cc)) ∧ lwQ B A1 t E (grS t E f k i)) hp261 (fun {C i} s0 s1 s2 s3 s4 => by
            have e : d + 4 * (6 - k) + 3 = d + 4 * (6 - (k + 1)) + 7 := by omega
            rw [e]
            exact (ih f (Nat.le_refl _) (k + 1) d).2.2 s0 s1 s2 s3 s4) q0 q1 q2 q3 q4 q5 (fun A1 h => ⟨A1, rfl, h⟩)
          exact ⟨A1, h, hp⟩) p0 p1 p2 p3 p4 (fun A1 h => ⟨A1, rfl, h⟩)
        exact ⟨A1, h, hp⟩
      · intro A i p0 p1 p2 p3 p4
        obtain ⟨_, h, A1, rfl, hp⟩ := c_readAll (X := X) (d := d + 4 * (6 - k)) (G := G) (A := A) (j := j) (cc := cc) (f := f) (k := k) (P := fun r => ∃ A1, r = (.inl (some (.int (zo ((pG t E (f + 1) 1 k i).1)))), (G, (mI A1, j), cc)) ∧ lwQ A A1 t E (pG t E (f + 1) 1 k i)) hp261 (fun g hg {B i} q0 q1 q2 q3 q4 => (ih g hg k d).1 q0 q1 q2 q3 q4) p0 p1 p2 p3 p4 (fun A1 h => ⟨A1, rfl, h⟩)
        exact ⟨A1, h, hp⟩
      · intro A i p0 p1 p2 p3 p4
        obtain ⟨_, h, A1, rfl, hp⟩ := c_readAny (X := X) (d := d + 4 * (6 - k)) (G := G) (A := A) (j := j) (cc := cc) (f := f) (k := k) (P := fun r => ∃ A1, r = (.inl (some (.int (zo ((pG t E (f + 1) 2 k i).1)))), (G, (mI A1, j), cc)) ∧ lwQ A A1 t E (pG t E (f + 1) 2 k i)) hp261 (fun g hg {B i} q0 q1 q2 q3 q4 => (ih g hg k d).2.1 q0 q1 q2 q3 q4) p0 p1 p2 p3 p4 (fun A1 h => ⟨A1, rfl, h⟩)
        exact ⟨A1, h, hp⟩
theorem c_readCond {X : gv_X} {d : Nat} {G : gv_Sh} {A : Nat → Nat → Nat} {j : Nat → Nat → Int64} {cc : gv_Rs} {t : Nat → Nat} {E i : Nat} (hp261 : oX3 G 261) (p0 : kI A t E i) (p1 : lnI A) (p2 : A 64 2 + 1 ≤ i) : ∃ A1 : Nat → Nat → Nat, Ev X (d + 31) gvm_27 0 (gv_enter [.ref 261, .int (nI 0)] 3) [] (G, (mI A, j), cc) (.inl (some (.int (zo ((pG t E 2100 2 0 i).1)))), (G, (mI A1, j), cc)) ∧ (lwQ A A1 t E (pG t E 2100 2 0 i)) := by
  have hE := p0.1.2.1
  exact (c_conds (X := X) (G := G) (j := j) (cc := cc) (t := t) (E := E) hp261 2100 2100 (Nat.le_refl _) 0 d).2.2 (A := A) p0 p1 p2 (by omega) (by omega)
