/-! the class: signs, numbers, words -/
theorem tkK_1 {t : Nat → Nat} {E i : Nat} (h : i ≤ E) : tkK t E i = 1 ↔ dgE t E (skB t E i) ≠ skB t E i := by
  have b := skB_b (t := t) h
  unfold tkK
  by_cases z : skB t E i = E
  · rw [if_pos z]
    have e : dgE t E (skB t E i) = skB t E i := skp_e (by omega) b.2
    exact ⟨fun y => absurd y (by decide), fun y => absurd e y⟩
  · rw [if_neg z]
    by_cases y : 48 ≤ t (skB t E i) ∧ t (skB t E i) ≤ 57
    · rw [if_pos y]
      have e : dgE t E (skB t E i) = dgE t E (skB t E i + 1) := skp_s (by omega) y
      have e2 := skp_b (t := t) (E := E) (lo := 48) (hi := 57) (i := skB t E i + 1) (by omega)
      refine ⟨fun _ => ?_, fun _ => rfl⟩
      rw [e]
      show dgE t E (skB t E i + 1) ≠ _
      unfold dgE
      omega
    · rw [if_neg y]
      have e : dgE t E (skB t E i) = skB t E i := skp_e (fun x => y x.2) b.2
      refine ⟨fun x => absurd x ?_, fun x => absurd e x⟩
      split <;> decide
theorem tkK_2 {t : Nat → Nat} {E i : Nat} (h : i ≤ E) : tkK t E i = 2 ↔ ltE t E (skB t E i) ≠ skB t E i := by
  have b := skB_b (t := t) h
  unfold tkK
  by_cases z : skB t E i = E
  · rw [if_pos z]
    have e : ltE t E (skB t E i) = skB t E i := skp_e (by omega) b.2
    exact ⟨fun y => absurd y (by decide), fun y => absurd e y⟩
  · rw [if_neg z]
    by_cases y : 48 ≤ t (skB t E i) ∧ t (skB t E i) ≤ 57
    · rw [if_pos y]
      have e : ltE t E (skB t E i) = skB t E i := skp_e (by omega) b.2
      exact ⟨fun x => absurd x (by decide), fun x => absurd e x⟩
    · rw [if_neg y]
      by_cases x : 97 ≤ t (skB t E i) ∧ t (skB t E i) ≤ 122
      · rw [if_pos x]
        have e : ltE t E (skB t E i) = ltE t E (skB t E i + 1) := skp_s (by omega) x
        have e2 := skp_b (t := t) (E := E) (lo := 97) (hi := 122) (i := skB t E i + 1) (by omega)
        refine ⟨fun _ => ?_, fun _ => rfl⟩
        rw [e]
        show ltE t E (skB t E i + 1) ≠ _
        unfold ltE
        omega
      · rw [if_neg x]
        have e : ltE t E (skB t E i) = skB t E i := skp_e (fun w => x w.2) b.2
        exact ⟨fun w => absurd w (by decide), fun w => absurd e w⟩
theorem tkE_1 {t : Nat → Nat} {E i : Nat} (h : tkK t E i = 1) : tkE t E i = dgE t E (skB t E i) := by
  unfold tkK at h
  unfold tkE
  split
  · rename_i z; rw [if_pos z] at h; cases h
  · rename_i z
    rw [if_neg z] at h
    split
    · rfl
    · rename_i y; rw [if_neg y] at h; exact absurd h (by split <;> decide)
theorem tkE_2 {t : Nat → Nat} {E i : Nat} (h : tkK t E i = 2) : tkE t E i = ltE t E (skB t E i) := by
  unfold tkK at h
  unfold tkE
  split
  · rename_i z; rw [if_pos z] at h; cases h
  · rename_i z
    rw [if_neg z] at h
    split
    · rename_i y; rw [if_pos y] at h; cases h
    · rename_i y
      rw [if_neg y] at h
      split
      · rfl
      · rename_i x; rw [if_neg x] at h; cases h
theorem tkE_b {t : Nat → Nat} {E i : Nat} (h : i ≤ E) : skB t E i ≤ tkE t E i ∧ tkE t E i ≤ E := by
  have b := skB_b (t := t) h
  have b1 := skp_b (t := t) (E := E) (lo := 48) (hi := 57) b.2
  have b2 := skp_b (t := t) (E := E) (lo := 97) (hi := 122) b.2
  unfold tkE
  split
  · omega
  · split
    · exact b1
    · split
      · exact b2
      · omega
theorem tkK_0 {t : Nat → Nat} {E i : Nat} : tkK t E i = 0 ↔ skB t E i = E := by
  unfold tkK
  split
  · rename_i z; exact ⟨fun _ => z, fun _ => rfl⟩
  · rename_i z
    exact ⟨fun y => absurd y (by split; decide; split <;> decide), fun y => absurd y z⟩
theorem tkK_le {t : Nat → Nat} {E i : Nat} : tkK t E i ≤ 3 := by
  unfold tkK
  split
  · decide
  · split
    · decide
    · split <;> decide
theorem tkK_n {t : Nat → Nat} {E i : Nat} (h : i ≤ E) : nnB t E i = decide (tkK t E i = 1) := by
  have b := skB_b (t := t) h
  refine decide_eq_decide.mpr ?_
  unfold tkK
  by_cases z : skB t E i = E
  · rw [if_pos z]; exact ⟨fun y => absurd y.1 (by omega), fun y => by cases y⟩
  · rw [if_neg z]
    by_cases y : 48 ≤ t (skB t E i) ∧ t (skB t E i) ≤ 57
    · rw [if_pos y]; exact ⟨fun _ => rfl, fun _ => ⟨by omega, y⟩⟩
    · rw [if_neg y]; exact ⟨fun w => absurd w.2 y, fun w => absurd w (by split <;> decide)⟩
theorem tkK_s {t : Nat → Nat} {E i c : Nat} (h : i ≤ E) (hc : (33 ≤ c ∧ c < 48) ∨ (58 ≤ c ∧ c < 97)) (e : sgB t E i c = true) : tkK t E i = 3 ∧ tkE t E i = skB t E i + 1 := by
  have := of_decide_eq_true e
  unfold tkK tkE
  rw [if_neg (by omega), if_neg (by omega), if_neg (by omega), if_neg (by omega), if_neg (by omega), if_neg (by omega)]
  exact ⟨rfl, rfl⟩
theorem tkN_v {A : Nat → Nat → Nat} {t : Nat → Nat} {E i m : Nat} (k : kI A t E i) (h : nmV t E i m ≠ 4294967295) : tkK t E i = 1 ∧ A 258 6 = nmV t E i m ∧ tkE t E i = nmE t E i := by
  unfold nmV at h ⊢
  by_cases z : dgE t E (skB t E i) = skB t E i ∨ 3 < dgE t E (skB t E i) - skB t E i ∨ sg m < sg (dvN t (skB t E i) (dgE t E (skB t E i) - skB t E i))
  · rw [if_pos z] at h; exact absurd rfl h
  · rw [if_neg z]
    have k1 : tkK t E i = 1 := (tkK_1 k.2.1).mpr (by omega)
    refine ⟨k1, ?_, tkE_1 k1⟩
    rw [k.2.2.2.2.2.1 k1, tkE_1 k1]
    unfold tkN
    rw [if_pos (by omega)]
theorem kI_of {A B : Nat → Nat → Nat} {t : Nat → Nat} {E i : Nat} (h : kI A t E i) (e : ∀ k, k ≠ 3 → B 258 k = A 258 k) (f : B 259 = A 259) : kI B t E i := by
  obtain ⟨a1, a2, a3, a4, a5, a6, a7⟩ := h
  unfold kI
  rw [e 4 (by decide), e 2 (by decide), e 5 (by decide), e 6 (by decide)]
  exact ⟨tI_of a1 (e 1 (by decide)) f, a2, a3, a4, a5, a6, a7⟩
/-- a part of a text is what stands from b to e -/
def sgm (t : Nat → Nat) (b e q u v : Nat) : Bool := decide (v - u = e - b) && allN (fun k => decide (t (b + k) = chN q (u + k))) (v - u)
def segL (q : Nat) : Nat → Nat → Nat → List (Nat × Nat)
  | 0, _, _ => []
  | f + 1, u, i => if wl q < i then [] else if i = wl q ∨ chN q i = 32 then (u, i) :: segL q f (i + 1) (i + 1) else segL q f u (i + 1)
def fsN (t : Nat → Nat) (b e q : Nat) : List (Nat × Nat) → Nat → Nat
  | [], _ => 4294967295
  | (u, v) :: l, x => if sgm t b e q u v = true then x else fsN t b e q l (x + 1)
def waN (t : Nat → Nat) (E i q : Nat) : Nat := if tkK t E i = 2 then fsN t (skB t E i) (ltE t E (skB t E i)) q (segL q (wl q + 2) 0 0) 0 else 4294967295
theorem fsN_le {t : Nat → Nat} {b e q : Nat} : ∀ {l : List (Nat × Nat)} {x : Nat}, fsN t b e q l x = 4294967295 ∨ fsN t b e q l x < x + l.length
  | [], _ => Or.inl rfl
  | (u, v) :: l, x => by
    have h := fsN_le (t := t) (b := b) (e := e) (q := q) (l := l) (x := x + 1)
    show (if sgm t b e q u v = true then x else fsN t b e q l (x + 1)) = 4294967295 ∨ (if sgm t b e q u v = true then x else fsN t b e q l (x + 1)) < x + (l.length + 1)
    split
    · exact Or.inr (by omega)
    · rcases h with h | h
      · exact Or.inl h
      · exact Or.inr (by omega)
theorem waN_c : ∀ q, q < 11 → decide ((segL q (wl q + 2) 0 0).length < 60) = true := by decide +kernel
theorem waN_lt {t : Nat → Nat} {E i q : Nat} (h : q < 11) : waN t E i q < 4294967296 := by
  have c := of_decide_eq_true (waN_c q h)
  unfold waN
  split
  · rcases fsN_le (t := t) (b := skB t E i) (e := ltE t E (skB t E i)) (q := q) (l := segL q (wl q + 2) 0 0) (x := 0) with h | h <;> omega
  · decide
theorem sgm_mt {t : Nat → Nat} {b e q u v p : Nat} (h : wl p = v - u) (c : ∀ k, k < v - u → chN q (u + k) = chN p k) : sgm t b e q u v = mt t b e p := by
  unfold sgm mt
  rw [h]
  have e1 : decide (v - u = e - b) = decide (e - b = v - u) := decide_eq_decide.mpr eq_comm
  rw [e1, allN_congr (fun k hk => by rw [c k hk])]
theorem mt_0 {t : Nat → Nat} {b p : Nat} (h : 1 ≤ wl p) : mt t b b p = false := by
  unfold mt
  rw [decide_eq_false (by omega), Bool.false_and]
theorem w64 {X : gv_X} {d : Nat} {G : gv_Sh} {A : Nat → Nat → Nat} {j : Nat → Nat → Int64} {cc : gv_Rs} {P : gv_O × gv_S → Prop} {c : Nat} (hp258 : oX7 G 258) (H : ((A 258 5) < 4294967296) ∧ (((¬ (A 258 5) = 3) → P (.inl (some (.int (nI 0))), (G, (mI A, j), cc))) ∧ (((A 258 5) = 3) → ((A 258 6) < 4294967296) ∧ ((c < 4294967296) ∧ (((¬ (A 258 6) = c) → P (.inl (some (.int (nI 0))), (G, (mI A, j), cc))) ∧ (((A 258 6) = c) → P (.inl (some (.int (nI 1))), (G, (mI A, j), cc)))))))) : EvP X (d + 0) gvm_64 0 (gv_enter [.ref 258, .int (nI c)] 2) [] (G, (mI A, j), cc) P :=
  (pv_aload_n rfl rfl   (pn_getI rfl rfl (oX7_k hp258) rfl   (pn_iconst rfl rfl   (pn_ic_ne rfl H.1 (by decide) (fun c1 => (pn_iconst rfl rfl   (pv_iretz rfl rfl (Or.inl rfl) (H.2.1 c1)))) (fun c1 => (pv_aload_n rfl rfl   (pn_getI rfl rfl (oX7_k hp258) rfl   (pv_iload_n rfl rfl   (pn_ic_ne rfl (H.2.2 c1).1 (H.2.2 c1).2.1 (fun c2 => (pn_iconst rfl rfl   (pv_iretz rfl rfl (Or.inl rfl) ((H.2.2 c1).2.2.1 c2)))) (fun c2 => (pn_iconst rfl rfl   (pv_goto rfl (pv_iretz rfl rfl (Or.inr rfl) ((H.2.2 c1).2.2.2 c2))))))))))))))
theorem c_isSign_p {X : gv_X} {d : Nat} {G : gv_Sh} {A : Nat → Nat → Nat} {j : Nat → Nat → Int64} {cc : gv_Rs} {P : gv_O × gv_S → Prop} {c : Nat} {t : Nat → Nat} {E : Nat} {i : Nat} (hp258 : oX7 G 258) (p0 : kI A t E i) (p1 : (33 ≤ c ∧ c < 48) ∨ (58 ≤ c ∧ c < 97)) (hP : P (.inl (some (.int (zo (sgB t E i c)))), (G, (mI A, j), cc))) : EvP X (d + 0) gvm_64 0 (gv_enter [.ref 258, .int (nI c)] 2) [] (G, (mI A, j), cc) P := by
  obtain ⟨⟨a1, a0, a9⟩, a2, a3, a4, a5, a6, a7⟩ := p0
  have b := skB_b (t := t) a2
  have kl := tkK_le (t := t) (E := E) (i := i)
  refine w64 hp258 ⟨by omega, fun c1 => qz0 hP ?_, fun c1 => ?_⟩
  · cases z : sgB t E i c with
    | false => rfl
    | true => exact absurd (a5.trans (tkK_s a2 p1 z).1) c1
  · obtain ⟨v1, v2⟩ := a7 (a5.symm.trans c1)
    have nE : ¬ skB t E i = E := fun z => by have := tkK_0.mpr z; omega
    refine ⟨by omega, by omega, fun c2 => qz0 hP (decide_eq_false (fun z => c2 ?_)), fun c2 => qz1 hP (decide_eq_true ⟨by omega, ?_⟩)⟩
    · rw [v2] at z; exact (sx8_eq v1 (by omega)).mp z.2
    · rw [v2]; exact (sx8_eq v1 (by omega)).mpr c2
theorem c_isSign {X : gv_X} {d : Nat} {G : gv_Sh} {A : Nat → Nat → Nat} {j : Nat → Nat → Int64} {cc : gv_Rs} {c : Nat} {t : Nat → Nat} {E : Nat} {i : Nat} (hp258 : oX7 G 258) (p0 : kI A t E i) (p1 : (33 ≤ c ∧ c < 48) ∨ (58 ≤ c ∧ c < 97)) : Ev X (d + 0) gvm_64 0 (gv_enter [.ref 258, .int (nI c)] 2) [] (G, (mI A, j), cc) (.inl (some (.int (zo (sgB t E i c)))), (G, (mI A, j), cc)) := evp_det (c_isSign_p hp258 p0 p1 rfl)
theorem w65 {X : gv_X} {d : Nat} {G : gv_Sh} {A : Nat → Nat → Nat} {j : Nat → Nat → Int64} {cc : gv_Rs} {P : gv_O × gv_S → Prop} {m : Nat} (hp258 : oX7 G 258) (H : ((A 258 5) < 4294967296) ∧ (((¬ (A 258 5) = 1) → P (.inl (some (.int (nI 0))), (G, (mI A, j), cc))) ∧ (((A 258 5) = 1) → ((A 258 6) < 4294967296) ∧ (((2147483648 ≤ (A 258 6)) → P (.inl (some (.int (nI 0))), (G, (mI A, j), cc))) ∧ (((A 258 6) < 2147483648) → (((m + 2147483648) % 4294967296 < ((A 258 6) + 2147483648) % 4294967296) → P (.inl (some (.int (nI 0))), (G, (mI A, j), cc))) ∧ ((((A 258 6) + 2147483648) % 4294967296 ≤ (m + 2147483648) % 4294967296) → P (.inl (some (.int (nI 1))), (G, (mI A, j), cc)))))))) : EvP X (d + 0) gvm_65 0 (gv_enter [.ref 258, .int (nI m)] 2) [] (G, (mI A, j), cc) P :=
  (pv_aload_n rfl rfl   (pn_getI rfl rfl (oX7_k hp258) rfl   (pn_iconst rfl rfl   (pn_ic_ne rfl H.1 (by decide) (fun c1 => (pn_iconst rfl rfl   (pv_iretz rfl rfl (Or.inl rfl) (H.2.1 c1)))) (fun c1 => (pv_aload_n rfl rfl   (pn_getI rfl rfl (oX7_k hp258) rfl   (pn_if_lt rfl (H.2.2 c1).1 (fun c2 => (pn_iconst rfl rfl   (pv_iretz rfl rfl (Or.inl rfl) ((H.2.2 c1).2.1 c2)))) (fun c2 => (pv_aload_n rfl rfl   (pn_getI rfl rfl (oX7_k hp258) rfl   (pv_iload_n rfl rfl   (pn_ic_gtw rfl  (fun c3 => (pn_iconst rfl rfl   (pv_iretz rfl rfl (Or.inl rfl) (((H.2.2 c1).2.2 c2).1 c3)))) (fun c3 => (pn_iconst rfl rfl   (pv_goto rfl (pv_iretz rfl rfl (Or.inr rfl) (((H.2.2 c1).2.2 c2).2 c3))))))))))))))))))
theorem c_isNumberTo_p {X : gv_X} {d : Nat} {G : gv_Sh} {A : Nat → Nat → Nat} {j : Nat → Nat → Int64} {cc : gv_Rs} {P : gv_O × gv_S → Prop} {m : Nat} {t : Nat → Nat} {E : Nat} {i : Nat} (hp258 : oX7 G 258) (p0 : kI A t E i) (p1 : m < 4294967296) (hP : P (.inl (some (.int (zo (!decide (nmV t E i m = 4294967295))))), (G, (mI A, j), cc))) : EvP X (d + 0) gvm_65 0 (gv_enter [.ref 258, .int (nI m)] 2) [] (G, (mI A, j), cc) P := by
  have k := p0
  obtain ⟨⟨a1, a0, a9⟩, a2, a3, a4, a5, a6, a7⟩ := p0
  have b := skB_b (t := t) a2
  have kl := tkK_le (t := t) (E := E) (i := i)
  have n0 : nmV t E i m = 4294967295 → (!decide (nmV t E i m = 4294967295)) = false := fun z => by rw [decide_eq_true z]; rfl
  refine w65 hp258 ⟨by omega, fun c1 => qz0 hP (n0 ?_), fun c1 => ?_⟩
  · unfold nmV
    rw [if_pos (Or.inl (Decidable.not_not.mp (_root_.mt (tkK_1 a2).mpr (fun z => c1 (a5.trans z)))))]
  · have k1 : tkK t E i = 1 := a5.symm.trans c1
    have e1 := tkE_1 k1
    have b2 := skp_b (t := t) (E := E) (lo := 48) (hi := 57) b.2
    have hd := (dvN_le (t := t) (b := skB t E i) (dgE t E (skB t E i) - skB t E i) (fun x hx => run_in (i := skB t E i) rfl (Nat.le_add_right _ _) (show skB t E i + x < dgE t E (skB t E i) by omega) b.2)).1
    have nz := (tkK_1 a2).mp k1
    have v := a6 k1
    rw [e1] at v
    unfold tkN at v
    by_cases y : dgE t E (skB t E i) - skB t E i ≤ 3
    · rw [if_pos y] at v
      refine ⟨by omega, fun c2 => absurd c2 (by omega), fun c2 => ⟨fun c3 => qz0 hP (n0 ?_), fun c3 => qz1 hP ?_⟩⟩
      · unfold nmV sg
        rw [if_pos (Or.inr (Or.inr (by rw [← v]; exact c3)))]
      · have e : nmV t E i m = A 258 6 := by
          unfold nmV sg
          rw [if_neg (by rw [← v]; omega), v]
        rw [decide_eq_false (by omega)]; rfl
    · rw [if_neg y] at v
      refine ⟨by omega, fun c2 => qz0 hP (n0 ?_), fun c2 => absurd c2 (by omega)⟩
      unfold nmV
      rw [if_pos (Or.inr (Or.inl (by omega)))]
theorem c_isNumberTo {X : gv_X} {d : Nat} {G : gv_Sh} {A : Nat → Nat → Nat} {j : Nat → Nat → Int64} {cc : gv_Rs} {m : Nat} {t : Nat → Nat} {E : Nat} {i : Nat} (hp258 : oX7 G 258) (p0 : kI A t E i) (p1 : m < 4294967296) : Ev X (d + 0) gvm_65 0 (gv_enter [.ref 258, .int (nI m)] 2) [] (G, (mI A, j), cc) (.inl (some (.int (zo (!decide (nmV t E i m = 4294967295))))), (G, (mI A, j), cc)) := evp_det (c_isNumberTo_p hp258 p0 p1 rfl)
theorem w68 {X : gv_X} {d : Nat} {G : gv_Sh} {A : Nat → Nat → Nat} {j : Nat → Nat → Int64} {cc : gv_Rs} {P : gv_O × gv_S → Prop} {q : Nat} {u : Nat} {v : Nat} (hp258 : oX7 G 258) (H : (u ≤ v) ∧ (((A 258 4) ≤ (A 258 2)) ∧ (((v - u) < 4294967296) ∧ ((((A 258 2) - (A 258 4)) < 4294967296) ∧ ((((v - u) = ((A 258 2) - (A 258 4))) → (u ≤ 4294967296) ∧ (EvP X (d + 1) gvm_68 28 [some (.ref 258), some (.retAddr q), some (.int (nI u)), some (.int (nI v)), some (.int (nI (((A 258 4) + 4294967296 - u) % 4294967296))), some (.int (nI u))] [] (G, (mI A, j), cc) P)) ∧ ((¬ (v - u) = ((A 258 2) - (A 258 4))) → P (.inl (some (.int (nI 0))), (G, (mI A, j), cc)))))))) : EvP X (d + 1) gvm_68 0 (gv_enter [.ref 258, .retAddr q, .int (nI u), .int (nI v)] 6) [] (G, (mI A, j), cc) P :=
  (pv_iload_n rfl rfl   (pv_iload_n rfl rfl   (pn_isub rfl H.1  (pv_aload_n rfl rfl   (pn_getI rfl rfl (oX7_k hp258) rfl   (pv_aload_n rfl rfl   (pn_getI rfl rfl (oX7_k hp258) rfl   (pn_isub rfl H.2.1  (pn_ic_eq rfl H.2.2.1 H.2.2.2.1 (fun c1 => (pv_aload_n rfl rfl   (pn_getI rfl rfl (oX7_k hp258) rfl   (pv_iload_n rfl rfl   (pn_isubw rfl (H.2.2.2.2.1 c1).1  (pv_istore rfl rfl   (pv_iload_n rfl rfl   (pv_istore rfl rfl   (H.2.2.2.2.1 c1).2)))))))) (fun c1 => (pn_iconst rfl rfl   (pv_iretz rfl rfl (Or.inl rfl) (H.2.2.2.2.2 c1)))))))))))))
theorem w68_28 {X : gv_X} {d : Nat} {G : gv_Sh} {A : Nat → Nat → Nat} {j : Nat → Nat → Int64} {cc : gv_Rs} {P : gv_O × gv_S → Prop} {q : Nat} {u : Nat} {v : Nat} {l4 : Nat} {l5 : Nat} (hp258 : oX7 G 258) (H : (l5 < 2147483648) ∧ ((v < 2147483648) ∧ (((v ≤ l5) → P (.inl (some (.int (nI 1))), (G, (mI A, j), cc))) ∧ ((l5 < v) → (1 ≤ q ∧ q - 1 < gv_txT.length) ∧ ((l5 < 2147483648) ∧ (((gv_str gv_txT q).length < 2147483648) ∧ ((((gv_str gv_txT q).length ≤ l5) → P (.inl (some (.int (nI 1))), (G, (mI A, j), cc))) ∧ ((l5 < (gv_str gv_txT q).length) → (1 ≤ q ∧ q - 1 < gv_txT.length) ∧ ((l5 < (gv_str gv_txT q).length) ∧ ((((l5 + l4) % 4294967296) < 4294967296) ∧ ((A 258 1 ≤ 400) ∧ (((chN q l5) < 4294967296) ∧ (((if ((l5 + l4) % 4294967296) < A 258 1 then A 259 ((l5 + l4) % 4294967296) else 4294967295) < 4294967296) ∧ ((((chN q l5) = (if ((l5 + l4) % 4294967296) < A 258 1 then A 259 ((l5 + l4) % 4294967296) else 4294967295)) → EvP X (d + 1) gvm_68 28 [some (.ref 258), some (.retAddr q), some (.int (nI u)), some (.int (nI v)), some (.int (nI l4)), some (.int (nI (l5 + 1)))] [] (G, (mI A, j), cc) P) ∧ ((¬ (chN q l5) = (if ((l5 + l4) % 4294967296) < A 258 1 then A 259 ((l5 + l4) % 4294967296) else 4294967295)) → P (.inl (some (.int (nI 0))), (G, (mI A, j), cc))))))))))))))))) : EvP X (d + 1) gvm_68 28 [some (.ref 258), some (.retAddr q), some (.int (nI u)), some (.int (nI v)), some (.int (nI l4)), some (.int (nI l5))] [] (G, (mI A, j), cc) P :=
  (pv_iload rfl rfl   (pv_iload_n rfl rfl   (pn_ic_ge rfl H.1 H.2.1 (fun c1 => (pn_iconst rfl rfl   (pv_iretz rfl rfl (Or.inr rfl) (H.2.2.1 c1)))) (fun c1 => (pv_iload rfl rfl   (pv_xload_n rfl rfl   (pn_slen rfl (H.2.2.2 c1).1 rfl (pn_ic_ge rfl (H.2.2.2 c1).2.1 (H.2.2.2 c1).2.2.1 (fun c2 => (pn_iconst rfl rfl   (pv_iretz rfl rfl (Or.inr rfl) ((H.2.2.2 c1).2.2.2.1 c2)))) (fun c2 => (pv_xload_n rfl rfl   (pv_iload rfl rfl   (pn_schar rfl ((H.2.2.2 c1).2.2.2.2 c2).1 ((H.2.2.2 c1).2.2.2.2 c2).2.1 rfl (pv_aload_n rfl rfl   (pv_iload rfl rfl   (pv_iload rfl rfl   (pn_iaddw rfl   (pv_virt rfl rfl rfl rfl rfl (oX7_k hp258) rfl rfl rfl (c_byteAt (i := ((l5 + l4) % 4294967296)) (A := A) hp258 ((H.2.2.2 c1).2.2.2.2 c2).2.2.1 ((H.2.2.2 c1).2.2.2.2 c2).2.2.2.1 ) (pn_ic_eq rfl ((H.2.2.2 c1).2.2.2.2 c2).2.2.2.2.1 ((H.2.2.2 c1).2.2.2.2 c2).2.2.2.2.2.1 (fun c3 => (pn_iinc rfl rfl rfl rfl   (pv_goto rfl (((H.2.2.2 c1).2.2.2.2 c2).2.2.2.2.2.2.1 c3)))) (fun c3 => (pn_iconst rfl rfl   (pv_iretz rfl rfl (Or.inl rfl) (((H.2.2.2 c1).2.2.2.2 c2).2.2.2.2.2.2.2 c3))))))))))))))))))))))
theorem c_standsHere_p {X : gv_X} {d : Nat} {G : gv_Sh} {A : Nat → Nat → Nat} {j : Nat → Nat → Int64} {cc : gv_Rs} {P : gv_O × gv_S → Prop} {q : Nat} {u : Nat} {v : Nat} {t : Nat → Nat} {E : Nat} (hp258 : oX7 G 258) (p0 : tI A t E) (p1 : A 258 4 ≤ A 258 2 ∧ A 258 2 ≤ E) (p2 : 1 ≤ q ∧ q < 40) (p3 : u ≤ v ∧ v ≤ wl q) (hP : P (.inl (some (.int (zo (sgm t (A 258 4) (A 258 2) q u v)))), (G, (mI A, j), cc))) : EvP X (d + 1) gvm_68 0 (gv_enter [.ref 258, .retAddr q, .int (nI u), .int (nI v)] 6) [] (G, (mI A, j), cc) P := by
  have hw := of_decide_eq_true (wl_c q p2.2)
  have hq : 1 ≤ q ∧ q - 1 < gv_txT.length := ⟨p2.1, Nat.lt_of_lt_of_le (by omega) (show 39 ≤ gv_txT.length by decide)⟩
  have hl : (gv_str gv_txT q).length = wl q := rfl
  obtain ⟨a1, a0, a9⟩ := p0
  have L : ∀ n k, v - u - k = n → k ≤ v - u → v - u = A 258 2 - A 258 4 → allN (fun k => decide (t (A 258 4 + k) = chN q (u + k))) k = true → EvP X (d + 1) gvm_68 28 [some (.ref 258), some (.retAddr q), some (.int (nI u)), some (.int (nI v)), some (.int (nI ((A 258 4 + 4294967296 - u) % 4294967296))), some (.int (nI (u + k)))] [] (G, (mI A, j), cc) P := by
    intro n
    induction n with
    | zero =>
      intro k e1 e2 e3 h
      have ek : k = v - u := by omega
      subst ek
      have R1 : sgm t (A 258 4) (A 258 2) q u v = true := by
        unfold sgm; rw [h, decide_eq_true e3]; rfl
      exact w68_28 hp258 ⟨by omega, by omega, fun c => qz1 hP R1, fun c => absurd c (by omega)⟩
    | succ n ih =>
      intro k e1 e2 e3 h
      have hc := of_decide_eq_true (chN_c q p2.2 (u + k) (by omega))
      have ev : (u + k + (A 258 4 + 4294967296 - u) % 4294967296) % 4294967296 = A 258 4 + k := by omega
      have ht := a9 (A 258 4 + k) (by omega)
      have fv : (if A 258 4 + k < A 258 1 then A 259 (A 258 4 + k) else 4294967295) = A 259 (A 258 4 + k) := if_pos (by omega)
      refine w68_28 hp258 ?_
      rw [ev, fv, hl]
      refine ⟨by omega, by omega, fun c => absurd c (by omega), fun c => ⟨hq, by omega, by omega, fun c2 => absurd c2 (by omega), fun c2 => ⟨hq, c2, by omega, by omega, by omega, by omega, fun c3 => ?_, fun c3 => ?_⟩⟩⟩
      · refine ih (k + 1) (by omega) (by omega) e3 ?_
        show (allN (fun k => decide (t (A 258 4 + k) = chN q (u + k))) k && decide (t (A 258 4 + k) = chN q (u + k))) = true
        rw [h, decide_eq_true (show t (A 258 4 + k) = chN q (u + k) by rw [ht.2]; exact (sx8_eq ht.1 hc).mpr c3.symm)]; rfl
      · refine qz0 hP ?_
        cases y : sgm t (A 258 4) (A 258 2) q u v with
        | false => rfl
        | true =>
          unfold sgm at y
          rw [Bool.and_eq_true] at y
          have := of_decide_eq_true (allN_iff.mp y.2 k (by omega))
          rw [ht.2] at this
          exact absurd ((sx8_eq ht.1 hc).mp this).symm c3
  refine w68 hp258 ⟨p3.1, p1.1, by omega, by omega, fun c => ⟨by omega, L _ 0 rfl (by omega) c rfl⟩, fun c => qz0 hP ?_⟩
  unfold sgm
  rw [decide_eq_false c, Bool.false_and]
theorem c_standsHere {X : gv_X} {d : Nat} {G : gv_Sh} {A : Nat → Nat → Nat} {j : Nat → Nat → Int64} {cc : gv_Rs} {q : Nat} {u : Nat} {v : Nat} {t : Nat → Nat} {E : Nat} (hp258 : oX7 G 258) (p0 : tI A t E) (p1 : A 258 4 ≤ A 258 2 ∧ A 258 2 ≤ E) (p2 : 1 ≤ q ∧ q < 40) (p3 : u ≤ v ∧ v ≤ wl q) : Ev X (d + 1) gvm_68 0 (gv_enter [.ref 258, .retAddr q, .int (nI u), .int (nI v)] 6) [] (G, (mI A, j), cc) (.inl (some (.int (zo (sgm t (A 258 4) (A 258 2) q u v)))), (G, (mI A, j), cc)) := evp_det (c_standsHere_p hp258 p0 p1 p2 p3 rfl)
theorem w67 {X : gv_X} {d : Nat} {G : gv_Sh} {A : Nat → Nat → Nat} {j : Nat → Nat → Int64} {cc : gv_Rs} {P : gv_O × gv_S → Prop} {q : Nat} (hp258 : oX7 G 258) (H : ((A 258 5) < 4294967296) ∧ ((((A 258 5) = 2) → EvP X (d + 2) gvm_67 17 [some (.ref 258), some (.retAddr q), some (.int (nI 0)), some (.int (nI 0)), some (.int (nI 0))] [] (G, (mI A, j), cc) P) ∧ ((¬ (A 258 5) = 2) → P (.inl (some (.int (nI 4294967295))), (G, (mI A, j), cc))))) : EvP X (d + 2) gvm_67 0 (gv_enter [.ref 258, .retAddr q] 5) [] (G, (mI A, j), cc) P :=
  (pv_aload_n rfl rfl   (pn_getI rfl rfl (oX7_k hp258) rfl   (pn_iconst rfl rfl   (pn_ic_eq rfl H.1 (by decide) (fun c1 => (pn_iconst rfl rfl   (pv_istore_n rfl rfl   (pn_iconst rfl rfl   (pv_istore_n rfl rfl   (pn_iconst rfl rfl   (pv_istore rfl rfl   (H.2.1 c1)))))))) (fun c1 => (pn_iconst (u := 4294967295) rfl (by decide)   (pv_ireti rfl rfl (H.2.2 c1))))))))
theorem w67_17 {X : gv_X} {d : Nat} {G : gv_Sh} {A : Nat → Nat → Nat} {j : Nat → Nat → Int64} {cc : gv_Rs} {P : gv_O × gv_S → Prop} {q : Nat} {l2 : Nat} {l3 : Nat} {l4 : Nat} {t : Nat → Nat} {E : Nat} (hp258 : oX7 G 258) (H : (1 ≤ q ∧ q - 1 < gv_txT.length) ∧ ((l4 < 2147483648) ∧ (((gv_str gv_txT q).length < 2147483648) ∧ ((((gv_str gv_txT q).length < l4) → P (.inl (some (.int (nI 4294967295))), (G, (mI A, j), cc))) ∧ ((l4 ≤ (gv_str gv_txT q).length) → (1 ≤ q ∧ q - 1 < gv_txT.length) ∧ ((l4 < 4294967296) ∧ (((gv_str gv_txT q).length < 4294967296) ∧ (((l4 = (gv_str gv_txT q).length) → (tI A t E) ∧ ((A 258 4 ≤ A 258 2 ∧ A 258 2 ≤ E) ∧ ((1 ≤ q ∧ q < 40) ∧ ((l3 ≤ l4 ∧ l4 ≤ wl q) ∧ ((((sgm t (A 258 4) (A 258 2) q l3 l4) = false) → EvP X (d + 2) gvm_67 17 [some (.ref 258), some (.retAddr q), some (.int (nI (l2 + 1))), some (.int (nI (l4 + 1))), some (.int (nI (l4 + 1)))] [] (G, (mI A, j), cc) P) ∧ (((sgm t (A 258 4) (A 258 2) q l3 l4) = true) → P (.inl (some (.int (nI l2))), (G, (mI A, j), cc)))))))) ∧ ((¬ l4 = (gv_str gv_txT q).length) → (1 ≤ q ∧ q - 1 < gv_txT.length) ∧ ((l4 < (gv_str gv_txT q).length) ∧ (((chN q l4) < 4294967296) ∧ (((¬ (chN q l4) = 32) → EvP X (d + 2) gvm_67 17 [some (.ref 258), some (.retAddr q), some (.int (nI l2)), some (.int (nI l3)), some (.int (nI (l4 + 1)))] [] (G, (mI A, j), cc) P) ∧ (((chN q l4) = 32) → (tI A t E) ∧ ((A 258 4 ≤ A 258 2 ∧ A 258 2 ≤ E) ∧ ((1 ≤ q ∧ q < 40) ∧ ((l3 ≤ l4 ∧ l4 ≤ wl q) ∧ ((((sgm t (A 258 4) (A 258 2) q l3 l4) = false) → EvP X (d + 2) gvm_67 17 [some (.ref 258), some (.retAddr q), some (.int (nI (l2 + 1))), some (.int (nI (l4 + 1))), some (.int (nI (l4 + 1)))] [] (G, (mI A, j), cc) P) ∧ (((sgm t (A 258 4) (A 258 2) q l3 l4) = true) → P (.inl (some (.int (nI l2))), (G, (mI A, j), cc)))))))))))))))))))) : EvP X (d + 2) gvm_67 17 [some (.ref 258), some (.retAddr q), some (.int (nI l2)), some (.int (nI l3)), some (.int (nI l4))] [] (G, (mI A, j), cc) P :=
  (pv_iload rfl rfl   (pv_xload_n rfl rfl   (pn_slen rfl H.1 rfl (pn_ic_gt rfl H.2.1 H.2.2.1 (fun c1 => (pn_iconst (u := 4294967295) rfl (by decide)   (pv_ireti rfl rfl (H.2.2.2.1 c1)))) (fun c1 => (pv_iload rfl rfl   (pv_xload_n rfl rfl   (pn_slen rfl (H.2.2.2.2 c1).1 rfl (pn_ic_eq rfl (H.2.2.2.2 c1).2.1 (H.2.2.2.2 c1).2.2.1 (fun c2 => (pv_aload_n rfl rfl   (pv_xload_n rfl rfl   (pv_iload_n rfl rfl   (pv_iload rfl rfl   (pv_virt rfl rfl rfl rfl rfl (oX7_k hp258) rfl rfl rfl (c_standsHere (q := q) (u := l3) (v := l4) (t := t) (E := E) (A := A) hp258 ((H.2.2.2.2 c1).2.2.2.1 c2).1 ((H.2.2.2.2 c1).2.2.2.1 c2).2.1 ((H.2.2.2.2 c1).2.2.2.1 c2).2.2.1 ((H.2.2.2.2 c1).2.2.2.1 c2).2.2.2.1 ) (pv_if_eq_zo rfl  (fun c3 => (pn_iinc rfl rfl rfl rfl   (pv_iload rfl rfl   (pn_iconst rfl rfl   (pn_iadd rfl   (pv_istore_n rfl rfl   (pn_iinc rfl rfl rfl rfl   (pv_goto rfl (((H.2.2.2.2 c1).2.2.2.1 c2).2.2.2.2.1 c3))))))))) (fun c3 => (pv_iload_n rfl rfl   (pv_ireti rfl rfl (((H.2.2.2.2 c1).2.2.2.1 c2).2.2.2.2.2 c3))))))))))) (fun c2 => (pv_xload_n rfl rfl   (pv_iload rfl rfl   (pn_schar rfl ((H.2.2.2.2 c1).2.2.2.2 c2).1 ((H.2.2.2.2 c1).2.2.2.2 c2).2.1 rfl (pn_bipush rfl rfl   (pn_ic_ne rfl ((H.2.2.2.2 c1).2.2.2.2 c2).2.2.1 (by decide) (fun c4 => (pn_iinc rfl rfl rfl rfl   (pv_goto rfl (((H.2.2.2.2 c1).2.2.2.2 c2).2.2.2.1 c4)))) (fun c4 => (pv_aload_n rfl rfl   (pv_xload_n rfl rfl   (pv_iload_n rfl rfl   (pv_iload rfl rfl   (pv_virt rfl rfl rfl rfl rfl (oX7_k hp258) rfl rfl rfl (c_standsHere (q := q) (u := l3) (v := l4) (t := t) (E := E) (A := A) hp258 (((H.2.2.2.2 c1).2.2.2.2 c2).2.2.2.2 c4).1 (((H.2.2.2.2 c1).2.2.2.2 c2).2.2.2.2 c4).2.1 (((H.2.2.2.2 c1).2.2.2.2 c2).2.2.2.2 c4).2.2.1 (((H.2.2.2.2 c1).2.2.2.2 c2).2.2.2.2 c4).2.2.2.1 ) (pv_if_eq_zo rfl  (fun c5 => (pn_iinc rfl rfl rfl rfl   (pv_iload rfl rfl   (pn_iconst rfl rfl   (pn_iadd rfl   (pv_istore_n rfl rfl   (pn_iinc rfl rfl rfl rfl   (pv_goto rfl ((((H.2.2.2.2 c1).2.2.2.2 c2).2.2.2.2 c4).2.2.2.2.1 c5))))))))) (fun c5 => (pv_iload_n rfl rfl   (pv_ireti rfl rfl ((((H.2.2.2.2 c1).2.2.2.2 c2).2.2.2.2 c4).2.2.2.2.2 c5))))))))))))))))))))))))))
theorem c_wordAmong_p {X : gv_X} {d : Nat} {G : gv_Sh} {A : Nat → Nat → Nat} {j : Nat → Nat → Int64} {cc : gv_Rs} {P : gv_O × gv_S → Prop} {q : Nat} {t : Nat → Nat} {E : Nat} {i : Nat} (hp258 : oX7 G 258) (p0 : kI A t E i) (p1 : 1 ≤ q ∧ q < 11) (hP : P (.inl (some (.int (nI (waN t E i q)))), (G, (mI A, j), cc))) : EvP X (d + 2) gvm_67 0 (gv_enter [.ref 258, .retAddr q] 5) [] (G, (mI A, j), cc) P := by
  have hw := of_decide_eq_true (wl_c q (by omega))
  have hq : 1 ≤ q ∧ q - 1 < gv_txT.length := ⟨p1.1, Nat.lt_of_lt_of_le (by omega) (show 39 ≤ gv_txT.length by decide)⟩
  have hl : (gv_str gv_txT q).length = wl q := rfl
  have kl := tkK_le (t := t) (E := E) (i := i)
  obtain ⟨a0, a2, a3, a4, a5, a6, a7⟩ := p0
  have be := tkE_b (t := t) a2
  have L : tkK t E i = 2 → ∀ f x u k, f = wl q + 2 - k → u ≤ k → k ≤ wl q + 1 → waN t E i q = fsN t (A 258 4) (A 258 2) q (segL q f u k) x → EvP X (d + 2) gvm_67 17 [some (.ref 258), some (.retAddr q), some (.int (nI x)), some (.int (nI u)), some (.int (nI k))] [] (G, (mI A, j), cc) P := by
    intro k2 f
    induction f with
    | zero => intro x u k e1 e2 e3; omega
    | succ f ih =>
      intro x u k e1 e2 e3 h
      have hs : segL q (f + 1) u k = if wl q < k then [] else if k = wl q ∨ chN q k = 32 then (u, k) :: segL q f (k + 1) (k + 1) else segL q f u (k + 1) := rfl
      rw [hs] at h
      have hit : (k = wl q ∨ chN q k = 32) → k ≤ wl q → (sgm t (A 258 4) (A 258 2) q u k = false → waN t E i q = fsN t (A 258 4) (A 258 2) q (segL q f (k + 1) (k + 1)) (x + 1)) ∧ (sgm t (A 258 4) (A 258 2) q u k = true → waN t E i q = x) := fun c1 c2 => by
        rw [if_neg (by omega), if_pos c1] at h
        refine ⟨fun y => h.trans ?_, fun y => h.trans ?_⟩
        · show (if sgm t (A 258 4) (A 258 2) q u k = true then x else _) = _
          rw [if_neg (by rw [y]; decide)]
        · show (if sgm t (A 258 4) (A 258 2) q u k = true then x else _) = _
          rw [if_pos y]
      refine w67_17 (t := t) (E := E) hp258 ?_
      rw [hl]
      refine ⟨hq, by omega, by omega, fun c => qn hP ?_, fun c => ⟨hq, by omega, by omega, fun c2 => ⟨a0, by omega, by omega, by omega, fun c3 => ih _ _ _ (by omega) (by omega) (by omega) ((hit (Or.inl c2) c).1 c3), fun c3 => qn hP ((hit (Or.inl c2) c).2 c3)⟩, fun c2 => ⟨hq, by omega, ?_, fun c3 => ?_, fun c3 => ⟨a0, by omega, by omega, by omega, fun c4 => ih _ _ _ (by omega) (by omega) (by omega) ((hit (Or.inr c3) c).1 c4), fun c4 => qn hP ((hit (Or.inr c3) c).2 c4)⟩⟩⟩⟩
      · rw [h, if_pos c]; rfl
      · have := of_decide_eq_true (chN_c q (by omega) k (by omega)); omega
      · refine ih _ _ _ (by omega) (by omega) (by omega) ?_
        rw [h, if_neg (by omega), if_neg (by omega)]
  refine w67 hp258 ⟨by omega, fun c => ?_, fun c => qn hP ?_⟩
  · have k2 : tkK t E i = 2 := a5.symm.trans c
    refine L k2 _ 0 0 0 rfl (Nat.le_refl _) (by omega) ?_
    unfold waN
    rw [if_pos k2, a3, a4, tkE_2 k2]; rfl
  · unfold waN
    rw [if_neg (fun z => c (a5.trans z))]
theorem c_wordAmong {X : gv_X} {d : Nat} {G : gv_Sh} {A : Nat → Nat → Nat} {j : Nat → Nat → Int64} {cc : gv_Rs} {q : Nat} {t : Nat → Nat} {E : Nat} {i : Nat} (hp258 : oX7 G 258) (p0 : kI A t E i) (p1 : 1 ≤ q ∧ q < 11) : Ev X (d + 2) gvm_67 0 (gv_enter [.ref 258, .retAddr q] 5) [] (G, (mI A, j), cc) (.inl (some (.int (nI (waN t E i q)))), (G, (mI A, j), cc)) := evp_det (c_wordAmong_p hp258 p0 p1 rfl)
theorem w66 {X : gv_X} {d : Nat} {G : gv_Sh} {A : Nat → Nat → Nat} {j : Nat → Nat → Int64} {cc : gv_Rs} {P : gv_O × gv_S → Prop} {q : Nat} {t : Nat → Nat} {E : Nat} {i : Nat} (hp258 : oX7 G 258) (H : (kI A t E i) ∧ ((1 ≤ q ∧ q < 11) ∧ (((waN t E i q) < 4294967296) ∧ (((¬ (waN t E i q) = 0) → P (.inl (some (.int (nI 0))), (G, (mI A, j), cc))) ∧ (((waN t E i q) = 0) → P (.inl (some (.int (nI 1))), (G, (mI A, j), cc))))))) : EvP X (d + 3) gvm_66 0 (gv_enter [.ref 258, .retAddr q] 2) [] (G, (mI A, j), cc) P :=
  (pv_aload_n rfl rfl   (pv_xload_n rfl rfl   (pv_virt rfl rfl rfl rfl rfl (oX7_k hp258) rfl rfl rfl (c_wordAmong (q := q) (t := t) (E := E) (i := i) (A := A) hp258 H.1 H.2.1 ) (pn_if_ne rfl H.2.2.1 (fun c1 => (pn_iconst rfl rfl   (pv_iretz rfl rfl (Or.inl rfl) (H.2.2.2.1 c1)))) (fun c1 => (pn_iconst rfl rfl   (pv_goto rfl (pv_iretz rfl rfl (Or.inr rfl) (H.2.2.2.2 c1)))))))))
theorem c_isWord_p {X : gv_X} {d : Nat} {G : gv_Sh} {A : Nat → Nat → Nat} {j : Nat → Nat → Int64} {cc : gv_Rs} {P : gv_O × gv_S → Prop} {q : Nat} {t : Nat → Nat} {E : Nat} {i : Nat} (hp258 : oX7 G 258) (p0 : kI A t E i) (p1 : 1 ≤ q ∧ q < 11) (hP : P (.inl (some (.int (zo (decide (waN t E i q = 0))))), (G, (mI A, j), cc))) : EvP X (d + 3) gvm_66 0 (gv_enter [.ref 258, .retAddr q] 2) [] (G, (mI A, j), cc) P := by
  exact w66 (t := t) (E := E) (i := i) hp258 ⟨p0, p1, waN_lt p1.2, fun c => qz0 hP (decide_eq_false c), fun c => qz1 hP (decide_eq_true c)⟩
theorem c_isWord {X : gv_X} {d : Nat} {G : gv_Sh} {A : Nat → Nat → Nat} {j : Nat → Nat → Int64} {cc : gv_Rs} {q : Nat} {t : Nat → Nat} {E : Nat} {i : Nat} (hp258 : oX7 G 258) (p0 : kI A t E i) (p1 : 1 ≤ q ∧ q < 11) : Ev X (d + 3) gvm_66 0 (gv_enter [.ref 258, .retAddr q] 2) [] (G, (mI A, j), cc) (.inl (some (.int (zo (decide (waN t E i q = 0))))), (G, (mI A, j), cc)) := evp_det (c_isWord_p hp258 p0 p1 rfl)
def bwR (t : Nat → Nat) (b e : Nat) : Nat := if mt t b e 22 = true then 0 else if mt t b e 23 = true then 1 else if mt t b e 24 = true then 2 else if mt t b e 25 = true then 3 else if mt t b e 26 = true then 4 else if mt t b e 27 = true then 5 else if mt t b e 28 = true then 6 else if mt t b e 29 = true then 7 else 4294967295
def flR (t : Nat → Nat) (b e : Nat) : Nat := if mt t b e 2 = true then 0 else if mt t b e 36 = true then 1 else if mt t b e 37 = true then 2 else 4294967295
theorem wa_b_s : segL 1 (wl 1 + 2) 0 0 = [(0, 2), (3, 10), (11, 16), (17, 23), (24, 29), (30, 34), (35, 40), (41, 46)] := by decide +kernel
theorem wa_b {t : Nat → Nat} {E i : Nat} (h : i ≤ E) : waN t E i 1 = bwR t (skB t E i) (ltE t E (skB t E i)) := by
  unfold waN
  rw [wa_b_s]
  by_cases z : tkK t E i = 2
  · rw [if_pos z]
    simp only [fsN, Nat.zero_add, Nat.reduceAdd]
    rw [sgm_mt (q := 1) (u := 0) (v := 2) (p := 22) (by decide +kernel) (by decide +kernel), sgm_mt (q := 1) (u := 3) (v := 10) (p := 23) (by decide +kernel) (by decide +kernel), sgm_mt (q := 1) (u := 11) (v := 16) (p := 24) (by decide +kernel) (by decide +kernel), sgm_mt (q := 1) (u := 17) (v := 23) (p := 25) (by decide +kernel) (by decide +kernel), sgm_mt (q := 1) (u := 24) (v := 29) (p := 26) (by decide +kernel) (by decide +kernel), sgm_mt (q := 1) (u := 30) (v := 34) (p := 27) (by decide +kernel) (by decide +kernel), sgm_mt (q := 1) (u := 35) (v := 40) (p := 28) (by decide +kernel) (by decide +kernel), sgm_mt (q := 1) (u := 41) (v := 46) (p := 29) (by decide +kernel) (by decide +kernel)]
    rfl
  · rw [if_neg z]
    have e : ltE t E (skB t E i) = skB t E i := by
      have := _root_.mt (tkK_2 h).mpr z
      exact Decidable.not_not.mp this
    rw [e]
    unfold bwR
    rw [mt_0 (p := 22) (by decide +kernel), mt_0 (p := 23) (by decide +kernel), mt_0 (p := 24) (by decide +kernel), mt_0 (p := 25) (by decide +kernel), mt_0 (p := 26) (by decide +kernel), mt_0 (p := 27) (by decide +kernel), mt_0 (p := 28) (by decide +kernel), mt_0 (p := 29) (by decide +kernel)]
    rfl
theorem wa_m_s : segL 3 (wl 3 + 2) 0 0 = [(0, 3), (4, 8), (9, 13), (14, 18), (19, 23), (24, 28), (29, 34), (35, 38), (39, 43), (44, 48), (49, 54)] := by decide +kernel
theorem wa_m {t : Nat → Nat} {E i : Nat} (h : i ≤ E) : waN t E i 3 = kdR t (skB t E i) (ltE t E (skB t E i)) := by
  unfold waN
  rw [wa_m_s]
  by_cases z : tkK t E i = 2
  · rw [if_pos z]
    simp only [fsN, Nat.zero_add, Nat.reduceAdd]
    rw [sgm_mt (q := 3) (u := 0) (v := 3) (p := 11) (by decide +kernel) (by decide +kernel), sgm_mt (q := 3) (u := 4) (v := 8) (p := 12) (by decide +kernel) (by decide +kernel), sgm_mt (q := 3) (u := 9) (v := 13) (p := 13) (by decide +kernel) (by decide +kernel), sgm_mt (q := 3) (u := 14) (v := 18) (p := 14) (by decide +kernel) (by decide +kernel), sgm_mt (q := 3) (u := 19) (v := 23) (p := 15) (by decide +kernel) (by decide +kernel), sgm_mt (q := 3) (u := 24) (v := 28) (p := 16) (by decide +kernel) (by decide +kernel), sgm_mt (q := 3) (u := 29) (v := 34) (p := 17) (by decide +kernel) (by decide +kernel), sgm_mt (q := 3) (u := 35) (v := 38) (p := 18) (by decide +kernel) (by decide +kernel), sgm_mt (q := 3) (u := 39) (v := 43) (p := 19) (by decide +kernel) (by decide +kernel), sgm_mt (q := 3) (u := 44) (v := 48) (p := 20) (by decide +kernel) (by decide +kernel), sgm_mt (q := 3) (u := 49) (v := 54) (p := 21) (by decide +kernel) (by decide +kernel)]
    rfl
  · rw [if_neg z]
    have e : ltE t E (skB t E i) = skB t E i := by
      have := _root_.mt (tkK_2 h).mpr z
      exact Decidable.not_not.mp this
    rw [e]
    unfold kdR
    rw [mt_0 (p := 11) (by decide +kernel), mt_0 (p := 12) (by decide +kernel), mt_0 (p := 13) (by decide +kernel), mt_0 (p := 14) (by decide +kernel), mt_0 (p := 15) (by decide +kernel), mt_0 (p := 16) (by decide +kernel), mt_0 (p := 17) (by decide +kernel), mt_0 (p := 18) (by decide +kernel), mt_0 (p := 19) (by decide +kernel), mt_0 (p := 20) (by decide +kernel), mt_0 (p := 21) (by decide +kernel)]
    rfl
theorem wa_l_s : segL 4 (wl 4 + 2) 0 0 = [(0, 4), (5, 10), (11, 16)] := by decide +kernel
theorem wa_l {t : Nat → Nat} {E i : Nat} (h : i ≤ E) : waN t E i 4 = lkR t (skB t E i) (ltE t E (skB t E i)) := by
  unfold waN
  rw [wa_l_s]
  by_cases z : tkK t E i = 2
  · rw [if_pos z]
    simp only [fsN, Nat.zero_add, Nat.reduceAdd]
    rw [sgm_mt (q := 4) (u := 0) (v := 4) (p := 27) (by decide +kernel) (by decide +kernel), sgm_mt (q := 4) (u := 5) (v := 10) (p := 38) (by decide +kernel) (by decide +kernel), sgm_mt (q := 4) (u := 11) (v := 16) (p := 39) (by decide +kernel) (by decide +kernel)]
    rfl
  · rw [if_neg z]
    have e : ltE t E (skB t E i) = skB t E i := by
      have := _root_.mt (tkK_2 h).mpr z
      exact Decidable.not_not.mp this
    rw [e]
    unfold lkR
    rw [mt_0 (p := 27) (by decide +kernel), mt_0 (p := 38) (by decide +kernel), mt_0 (p := 39) (by decide +kernel)]
    rfl
theorem wa_f_s : segL 9 (wl 9 + 2) 0 0 = [(0, 7), (8, 15), (16, 25)] := by decide +kernel
theorem wa_f {t : Nat → Nat} {E i : Nat} (h : i ≤ E) : waN t E i 9 = flR t (skB t E i) (ltE t E (skB t E i)) := by
  unfold waN
  rw [wa_f_s]
  by_cases z : tkK t E i = 2
  · rw [if_pos z]
    simp only [fsN, Nat.zero_add, Nat.reduceAdd]
    rw [sgm_mt (q := 9) (u := 0) (v := 7) (p := 2) (by decide +kernel) (by decide +kernel), sgm_mt (q := 9) (u := 8) (v := 15) (p := 36) (by decide +kernel) (by decide +kernel), sgm_mt (q := 9) (u := 16) (v := 25) (p := 37) (by decide +kernel) (by decide +kernel)]
    rfl
  · rw [if_neg z]
    have e : ltE t E (skB t E i) = skB t E i := by
      have := _root_.mt (tkK_2 h).mpr z
      exact Decidable.not_not.mp this
    rw [e]
    unfold flR
    rw [mt_0 (p := 2) (by decide +kernel), mt_0 (p := 36) (by decide +kernel), mt_0 (p := 37) (by decide +kernel)]
    rfl
theorem wa_p_s : segL 10 (wl 10 + 2) 0 0 = [(0, 2), (3, 9), (10, 17), (18, 23), (24, 29), (30, 35), (36, 40)] := by decide +kernel
theorem wa_p {t : Nat → Nat} {E i : Nat} (h : i ≤ E) : waN t E i 10 = wpR t (skB t E i) (ltE t E (skB t E i)) := by
  unfold waN
  rw [wa_p_s]
  by_cases z : tkK t E i = 2
  · rw [if_pos z]
    simp only [fsN, Nat.zero_add, Nat.reduceAdd]
    rw [sgm_mt (q := 10) (u := 0) (v := 2) (p := 22) (by decide +kernel) (by decide +kernel), sgm_mt (q := 10) (u := 3) (v := 9) (p := 30) (by decide +kernel) (by decide +kernel), sgm_mt (q := 10) (u := 10) (v := 17) (p := 31) (by decide +kernel) (by decide +kernel), sgm_mt (q := 10) (u := 18) (v := 23) (p := 32) (by decide +kernel) (by decide +kernel), sgm_mt (q := 10) (u := 24) (v := 29) (p := 33) (by decide +kernel) (by decide +kernel), sgm_mt (q := 10) (u := 30) (v := 35) (p := 34) (by decide +kernel) (by decide +kernel), sgm_mt (q := 10) (u := 36) (v := 40) (p := 35) (by decide +kernel) (by decide +kernel)]
    rfl
  · rw [if_neg z]
    have e : ltE t E (skB t E i) = skB t E i := by
      have := _root_.mt (tkK_2 h).mpr z
      exact Decidable.not_not.mp this
    rw [e]
    unfold wpR
    rw [mt_0 (p := 22) (by decide +kernel), mt_0 (p := 30) (by decide +kernel), mt_0 (p := 31) (by decide +kernel), mt_0 (p := 32) (by decide +kernel), mt_0 (p := 33) (by decide +kernel), mt_0 (p := 34) (by decide +kernel), mt_0 (p := 35) (by decide +kernel)]
    rfl
theorem wa_2_s : segL 2 (wl 2 + 2) 0 0 = [(0, 7)] := by decide +kernel
theorem wa_2v {t : Nat → Nat} {E i : Nat} (h : i ≤ E) : waN t E i 2 = if psB t E i 2 = true then 0 else 4294967295 := by
  unfold waN psB
  rw [wa_2_s]
  by_cases z : tkK t E i = 2
  · rw [if_pos z]
    show (if sgm t (skB t E i) (ltE t E (skB t E i)) 2 0 7 = true then 0 else 4294967295) = _
    rw [sgm_mt (q := 2) (u := 0) (v := 7) (p := 2) (by decide +kernel) (by decide +kernel)]
  · rw [if_neg z]
    have e : ltE t E (skB t E i) = skB t E i := by
      have := _root_.mt (tkK_2 h).mpr z
      exact Decidable.not_not.mp this
    rw [e, mt_0 (p := 2) (by decide +kernel)]
    rfl
theorem wa_2 {t : Nat → Nat} {E i : Nat} (h : i ≤ E) : decide (waN t E i 2 = 0) = psB t E i 2 := by
  rw [wa_2v h]
  cases psB t E i 2 <;> rfl
theorem wa_5_s : segL 5 (wl 5 + 2) 0 0 = [(0, 2)] := by decide +kernel
theorem wa_5v {t : Nat → Nat} {E i : Nat} (h : i ≤ E) : waN t E i 5 = if psB t E i 5 = true then 0 else 4294967295 := by
  unfold waN psB
  rw [wa_5_s]
  by_cases z : tkK t E i = 2
  · rw [if_pos z]
    show (if sgm t (skB t E i) (ltE t E (skB t E i)) 5 0 2 = true then 0 else 4294967295) = _
    rw [sgm_mt (q := 5) (u := 0) (v := 2) (p := 5) (by decide +kernel) (by decide +kernel)]
  · rw [if_neg z]
    have e : ltE t E (skB t E i) = skB t E i := by
      have := _root_.mt (tkK_2 h).mpr z
      exact Decidable.not_not.mp this
    rw [e, mt_0 (p := 5) (by decide +kernel)]
    rfl
theorem wa_5 {t : Nat → Nat} {E i : Nat} (h : i ≤ E) : decide (waN t E i 5 = 0) = psB t E i 5 := by
  rw [wa_5v h]
  cases psB t E i 5 <;> rfl
theorem wa_6_s : segL 6 (wl 6 + 2) 0 0 = [(0, 2)] := by decide +kernel
theorem wa_6v {t : Nat → Nat} {E i : Nat} (h : i ≤ E) : waN t E i 6 = if psB t E i 6 = true then 0 else 4294967295 := by
  unfold waN psB
  rw [wa_6_s]
  by_cases z : tkK t E i = 2
  · rw [if_pos z]
    show (if sgm t (skB t E i) (ltE t E (skB t E i)) 6 0 2 = true then 0 else 4294967295) = _
    rw [sgm_mt (q := 6) (u := 0) (v := 2) (p := 6) (by decide +kernel) (by decide +kernel)]
  · rw [if_neg z]
    have e : ltE t E (skB t E i) = skB t E i := by
      have := _root_.mt (tkK_2 h).mpr z
      exact Decidable.not_not.mp this
    rw [e, mt_0 (p := 6) (by decide +kernel)]
    rfl
theorem wa_6 {t : Nat → Nat} {E i : Nat} (h : i ≤ E) : decide (waN t E i 6 = 0) = psB t E i 6 := by
  rw [wa_6v h]
  cases psB t E i 6 <;> rfl
theorem wa_7_s : segL 7 (wl 7 + 2) 0 0 = [(0, 3)] := by decide +kernel
theorem wa_7v {t : Nat → Nat} {E i : Nat} (h : i ≤ E) : waN t E i 7 = if psB t E i 7 = true then 0 else 4294967295 := by
  unfold waN psB
  rw [wa_7_s]
  by_cases z : tkK t E i = 2
  · rw [if_pos z]
    show (if sgm t (skB t E i) (ltE t E (skB t E i)) 7 0 3 = true then 0 else 4294967295) = _
    rw [sgm_mt (q := 7) (u := 0) (v := 3) (p := 7) (by decide +kernel) (by decide +kernel)]
  · rw [if_neg z]
    have e : ltE t E (skB t E i) = skB t E i := by
      have := _root_.mt (tkK_2 h).mpr z
      exact Decidable.not_not.mp this
    rw [e, mt_0 (p := 7) (by decide +kernel)]
    rfl
theorem wa_7 {t : Nat → Nat} {E i : Nat} (h : i ≤ E) : decide (waN t E i 7 = 0) = psB t E i 7 := by
  rw [wa_7v h]
  cases psB t E i 7 <;> rfl
theorem wa_8_s : segL 8 (wl 8 + 2) 0 0 = [(0, 3)] := by decide +kernel
theorem wa_8v {t : Nat → Nat} {E i : Nat} (h : i ≤ E) : waN t E i 8 = if psB t E i 8 = true then 0 else 4294967295 := by
  unfold waN psB
  rw [wa_8_s]
  by_cases z : tkK t E i = 2
  · rw [if_pos z]
    show (if sgm t (skB t E i) (ltE t E (skB t E i)) 8 0 3 = true then 0 else 4294967295) = _
    rw [sgm_mt (q := 8) (u := 0) (v := 3) (p := 8) (by decide +kernel) (by decide +kernel)]
  · rw [if_neg z]
    have e : ltE t E (skB t E i) = skB t E i := by
      have := _root_.mt (tkK_2 h).mpr z
      exact Decidable.not_not.mp this
    rw [e, mt_0 (p := 8) (by decide +kernel)]
    rfl
theorem wa_8 {t : Nat → Nat} {E i : Nat} (h : i ≤ E) : decide (waN t E i 8 = 0) = psB t E i 8 := by
  rw [wa_8v h]
  cases psB t E i 8 <;> rfl
def elB (t : Nat → Nat) (E i : Nat) : Bool := if tkK t E i = 0 then true else if sgB t E i 59 = true then !decide (tkK t E (tkE t E i) = 0) else false
def elE (t : Nat → Nat) (E i : Nat) : Nat := if tkK t E i = 0 then i else tkE t E i
def elX (t : Nat → Nat) (E i : Nat) : Nat := if sgB t E i 59 = true then skB t E (tkE t E i) else skB t E i
/-- right: the reader stands at i; wrong: at x -/
def rdP (A B : Nat → Nat → Nat) (t : Nat → Nat) (E : Nat) (b : Bool) (i x : Nat) : Prop := (b = true → kI B t E i ∧ B 258 3 = A 258 3) ∧ (b = false → tI B t E ∧ B 258 3 = x)
theorem w70 {X : gv_X} {d : Nat} {G : gv_Sh} {A : Nat → Nat → Nat} {j : Nat → Nat → Int64} {cc : gv_Rs} {P : gv_O × gv_S → Prop} {t : Nat → Nat} {E : Nat} {i : Nat} (hp258 : oX7 G 258) (H : ((A 258 5) < 4294967296) ∧ (((¬ (A 258 5) = 0) → (kI A t E i) ∧ (((33 ≤ 59 ∧ 59 < 48) ∨ (58 ≤ 59 ∧ 59 < 97)) ∧ ((((sgB t E i 59) = true) → (tI A t E) ∧ ((A 258 2 = (tkE t E i)) ∧ (((tkE t E i) ≤ E) ∧ ((∀ A1v2 : Nat → Nat → Nat, ((kI A1v2 t E (tkE t E i)) ∧ (frR A A1v2)) → ((A1v2 258 5) < 4294967296) ∧ (((¬ (A1v2 258 5) = 0) → P (.inl (some (.int (nI 1))), (G, (mI A1v2, j), cc))) ∧ (((A1v2 258 5) = 0) → (∀ A5 : Nat → Nat → Nat, A5 = (gu A1v2 258 3 (A1v2 258 4)) → P (.inl (some (.int (zo false))), (G, (mI A5, j), cc)))))))))) ∧ (((sgB t E i 59) = false) → (∀ A6 : Nat → Nat → Nat, A6 = (gu A 258 3 (A 258 4)) → P (.inl (some (.int (zo false))), (G, (mI A6, j), cc))))))) ∧ (((A 258 5) = 0) → P (.inl (some (.int (nI 1))), (G, (mI A, j), cc))))) : EvP X (d + 3) gvm_70 0 (gv_enter [.ref 258] 1) [] (G, (mI A, j), cc) P :=
  (pv_aload_n rfl rfl   (pn_getI rfl rfl (oX7_k hp258) rfl   (pn_if_ne rfl H.1 (fun c1 => (pv_aload_n rfl rfl   (pn_bipush rfl rfl   (pv_virt rfl rfl rfl rfl rfl (oX7_k hp258) rfl rfl rfl (c_isSign (c := 59) (t := t) (E := E) (i := i) (A := A) hp258 (H.2.1 c1).1 (H.2.1 c1).2.1 ) (pv_if_ne_zo rfl  (fun c2 => (pv_aload_n rfl rfl   (match (c_step (t := t) (E := E) (i := (tkE t E i)) (A := A) (X := X) (d := d + 0) (G := G) (j := j) (cc := cc) hp258 ((H.2.1 c1).2.2.1 c2).1 ((H.2.1 c1).2.2.1 c2).2.1 ((H.2.1 c1).2.2.1 c2).2.2.1 ) with | ⟨A1v2, e3x24, h3⟩ => pv_virt rfl rfl rfl rfl rfl (oX7_k hp258) rfl rfl rfl e3x24 (pv_aload_n rfl rfl   (pn_getI rfl rfl (oX7_k hp258) rfl   (pn_if_ne rfl (((H.2.1 c1).2.2.1 c2).2.2.2 A1v2 h3).1 (fun c4 => (pn_iconst rfl rfl   (pv_iretz rfl rfl (Or.inr rfl) ((((H.2.1 c1).2.2.1 c2).2.2.2 A1v2 h3).2.1 c4)))) (fun c4 => (pv_aload_n rfl rfl   (match (⟨(gu A1v2 258 3 (A1v2 258 4)), rfl⟩ : ∃ Z : Nat → Nat → Nat, Z = (gu A1v2 258 3 (A1v2 258 4))) with | ⟨A5, q5⟩ => pv_virt rfl rfl rfl rfl rfl (oX7_k hp258) rfl rfl rfl (ev_eqM q5 (c_refuse (A := A1v2) hp258 )) (pv_goto rfl (pv_iretz rfl rfl (zo_b _) (((((H.2.1 c1).2.2.1 c2).2.2.2 A1v2 h3).2.2 c4) A5 q5)))))))))))) (fun c2 => (pv_aload_n rfl rfl   (match (⟨(gu A 258 3 (A 258 4)), rfl⟩ : ∃ Z : Nat → Nat → Nat, Z = (gu A 258 3 (A 258 4))) with | ⟨A6, q6⟩ => pv_virt rfl rfl rfl rfl rfl (oX7_k hp258) rfl rfl rfl (ev_eqM q6 (c_refuse (A := A) hp258 )) (pv_iretz rfl rfl (zo_b _) (((H.2.1 c1).2.2.2 c2) A6 q6)))))))))) (fun c1 => (pn_iconst rfl rfl   (pv_iretz rfl rfl (Or.inr rfl) (H.2.2 c1)))))))
theorem c_endLine_p {X : gv_X} {d : Nat} {G : gv_Sh} {A : Nat → Nat → Nat} {j : Nat → Nat → Int64} {cc : gv_Rs} {P : gv_O × gv_S → Prop} {t : Nat → Nat} {E : Nat} {i : Nat} (hp258 : oX7 G 258) (p0 : kI A t E i) (hP : ∀ A1 : Nat → Nat → Nat, (rdP A A1 t E (elB t E i) (elE t E i) (elX t E i)) ∧ (∀ q, q ≠ 258 → A1 q = A q) → P (.inl (some (.int (zo (elB t E i)))), (G, (mI A1, j), cc))) : EvP X (d + 3) gvm_70 0 (gv_enter [.ref 258] 1) [] (G, (mI A, j), cc) P := by
  have kl := tkK_le (t := t) (E := E) (i := i)
  have be := tkE_b (t := t) p0.2.1
  have a5 := p0.2.2.2.2.1
  have wr : ∀ B i', kI B t E i' → tI (gu B 258 3 (B 258 4)) t E ∧ gu B 258 3 (B 258 4) 258 3 = skB t E i' := fun B i' h => ⟨tI_of h.1 (gu_k (by decide) rfl) (gu_row (by decide)), by rw [gu_hit]; exact h.2.2.1⟩
  refine w70 (t := t) (E := E) (i := i) hp258 ⟨by omega, fun c1 => ⟨p0, by decide, fun c2 => ⟨p0.1, p0.2.2.2.1, be.2, fun B h => ⟨by have := tkK_le (t := t) (E := E) (i := tkE t E i); have := h.1.2.2.2.2.1; omega, fun c3 => ?_, fun c3 C hC => ?_⟩⟩, fun c2 C hC => ?_⟩, fun c1 => ?_⟩
  · have e : elB t E i = true := by
      unfold elB; rw [if_neg (by omega), if_pos c2, decide_eq_false (by have := h.1.2.2.2.2.1; omega)]; rfl
    refine qz1 (hP B ⟨⟨fun _ => ⟨?_, frR_3 h.2⟩, fun z => by rw [e] at z; cases z⟩, h.2.1⟩) e
    unfold elE; rw [if_neg (by omega)]; exact h.1
  · have e : elB t E i = false := by
      unfold elB; rw [if_neg (by omega), if_pos c2, decide_eq_true (by have := h.1.2.2.2.2.1; omega)]; rfl
    rw [← e]
    subst hC
    refine hP _ ⟨⟨fun z => absurd z (by rw [e]; decide), fun _ => ?_⟩, fun q hq => (gu_row hq).trans (h.2.1 q hq)⟩
    unfold elX; rw [if_pos c2]; exact wr _ _ h.1
  · have e : elB t E i = false := by
      unfold elB; rw [if_neg (by omega), if_neg (by rw [c2]; decide)]
    rw [← e]
    subst hC
    refine hP _ ⟨⟨fun z => absurd z (by rw [e]; decide), fun _ => ?_⟩, fun q hq => gu_row hq⟩
    unfold elX; rw [if_neg (by rw [c2]; decide)]; exact wr _ _ p0
  · have e : elB t E i = true := by
      unfold elB; rw [if_pos (by omega)]
    refine qz1 (hP A ⟨⟨fun _ => ⟨?_, rfl⟩, fun z => by rw [e] at z; cases z⟩, fun _ _ => rfl⟩) e
    unfold elE; rw [if_pos (by omega)]; exact p0
theorem c_endLine {X : gv_X} {d : Nat} {G : gv_Sh} {A : Nat → Nat → Nat} {j : Nat → Nat → Int64} {cc : gv_Rs} {t : Nat → Nat} {E : Nat} {i : Nat} (hp258 : oX7 G 258) (p0 : kI A t E i) : ∃ A1 : Nat → Nat → Nat, Ev X (d + 3) gvm_70 0 (gv_enter [.ref 258] 1) [] (G, (mI A, j), cc) (.inl (some (.int (zo (elB t E i)))), (G, (mI A1, j), cc)) ∧ (rdP A A1 t E (elB t E i) (elE t E i) (elX t E i)) ∧ (∀ q, q ≠ 258 → A1 q = A q) := by
  obtain ⟨_, h, A1, rfl, hp⟩ := c_endLine_p (X := X) (d := d) (G := G) (A := A) (j := j) (cc := cc) (t := t) (E := E) (i := i) (P := fun r => ∃ A1 : Nat → Nat → Nat, r = (.inl (some (.int (zo (elB t E i)))), (G, (mI A1, j), cc)) ∧ (rdP A A1 t E (elB t E i) (elE t E i) (elX t E i)) ∧ (∀ q, q ≠ 258 → A1 q = A q)) hp258 p0 (fun A1 h => ⟨A1, rfl, h⟩)
  exact ⟨A1, h, hp⟩
