/-! the class: lines of the law, a law read -/
theorem adL_q {A : Nat → Nat → Nat} {a b q : Nat} (h : ¬ (64 ≤ q ∧ q ≤ 68)) : adL A a b q = A q := by
  unfold adL; rw [gu_row (by omega), gu_row (by omega), gu_row (by omega), gu_row (by omega), gu_row (by omega)]
theorem adL_c {A C : Nat → Nat → Nat} {a b q : Nat} (h : ∀ q, q ≠ 258 → C q = A q) (hq : q ≠ 258) : adL C a b q = adL A a b q := by
  unfold adL
  rw [show C 64 = A 64 from h 64 (by decide)]
  funext x
  simp only [gu, h q hq, h 64 (by decide), h 65 (by decide), h 66 (by decide), h 67 (by decide), h 68 (by decide)]
theorem adL_1 {A : Nat → Nat → Nat} {a b : Nat} : adL A a b 64 1 = A 64 1 + 1 := by unfold adL; rw [gu_hit]
theorem adL_k {A : Nat → Nat → Nat} {a b k : Nat} (h : k ≠ 1) : adL A a b 64 k = A 64 k := by
  unfold adL; rw [gu_k h rfl, gu_row (by decide), gu_row (by decide), gu_row (by decide), gu_row (by decide)]
theorem adL_65 {A : Nat → Nat → Nat} {a b : Nat} (x : Nat) : adL A a b 65 x = if x = A 64 1 then a else A 65 x := by
  unfold adL; rw [gu_row (by decide), gu_row (by decide), gu_row (by decide), gu_row (by decide), gu_at]
theorem adL_66 {A : Nat → Nat → Nat} {a b : Nat} (x : Nat) : adL A a b 66 x = if x = A 64 1 then b else A 66 x := by
  unfold adL; rw [gu_row (by decide), gu_row (by decide), gu_row (by decide), gu_at]
  show (if x = A 64 1 then b else gu A 65 (A 64 1) a 66 x) = _
  rw [gu_row (by decide)]
theorem adL_67 {A : Nat → Nat → Nat} {a b : Nat} (x : Nat) : adL A a b 67 x = if x = A 64 1 then A 64 2 else A 67 x := by
  unfold adL; rw [gu_row (by decide), gu_row (by decide), gu_at]
  show (if x = A 64 1 then A 64 2 else gu (gu A 65 (A 64 1) a) 66 (A 64 1) b 67 x) = _
  rw [gu_row (by decide), gu_row (by decide)]
theorem adL_68 {A : Nat → Nat → Nat} {a b : Nat} (x : Nat) : adL A a b 68 x = if x = A 64 1 then A 64 2 else A 68 x := by
  unfold adL; rw [gu_row (by decide), gu_at]
  show (if x = A 64 1 then A 64 2 else gu (gu (gu A 65 (A 64 1) a) 66 (A 64 1) b) 67 (A 64 1) (A 64 2) 68 x) = _
  rw [gu_row (by decide), gu_row (by decide), gu_row (by decide)]
theorem lnI_ad {A : Nat → Nat → Nat} {a b : Nat} (h : A 64 1 < 12) : lnI (adL A a b) := by
  unfold lnI
  rw [adL_1, adL_k (by decide), adL_68]
  exact ⟨by omega, by omega, if_pos (by omega)⟩
def llQ (A B : Nat → Nat → Nat) (t : Nat → Nat) (E : Nat) (q : LlS) : Prop := (q.1 = true → kI B t E q.2.2.2.1 ∧ B 258 3 = A 258 3 ∧ exL (adL A q.2.1.1 q.2.1.2) B q.2.2.1) ∧ (q.1 = false → tI B t E ∧ B 258 3 = q.2.2.2.2) ∧ frL A B
theorem emL_u : ∀ (l : List (Nat × Nat)) (R : Nat → Nat) (n i : Nat), i < 1266 + 2 * n → emL R n l i = R i
  | [], _, _, _, _ => rfl
  | (c, v) :: l, R, n, i, h => by
    show emL (emC R n c v) (n + 1) l i = R i
    rw [emL_u l _ _ _ (by omega)]
    unfold emC
    rw [seR_ne (by omega), seR_ne (by omega)]
theorem emL_k : ∀ (l : List (Nat × Nat)) (R : Nat → Nat) (n k : Nat), k < l.length → emL R n l (1266 + 2 * (n + k)) = (gtC l k).1 ∧ emL R n l (1266 + 2 * (n + k) + 1) = (gtC l k).2
  | [], _, _, _, h => absurd h (Nat.not_lt_zero _)
  | (c, v) :: l, R, n, 0, _ => by
    show emL (emC R n c v) (n + 1) l (1266 + 2 * (n + 0)) = c ∧ emL (emC R n c v) (n + 1) l (1266 + 2 * (n + 0) + 1) = v
    rw [emL_u l _ _ _ (by omega), emL_u l _ _ _ (by omega)]
    unfold emC
    exact ⟨by rw [seR_ne (by omega)]; exact seR_at _ _ _, seR_at _ _ _⟩
  | (c, v) :: l, R, n, k + 1, h => by
    show emL (emC R n c v) (n + 1) l (1266 + 2 * (n + (k + 1))) = (gtC l k).1 ∧ emL (emC R n c v) (n + 1) l (1266 + 2 * (n + (k + 1)) + 1) = (gtC l k).2
    rw [show n + (k + 1) = (n + 1) + k by omega]
    exact emL_k l _ _ _ (Nat.lt_of_succ_lt_succ h)
/-- n lines and c codes, as the reference has them -/
def rlI (B : Nat → Nat → Nat) (S : Nat → Nat) (n c : Nat) : Prop := B 64 0 = 1 ∧ B 64 1 = n ∧ B 64 2 = c ∧ (∀ x, x < n → B 65 x = S (1218 + 4 * x) ∧ B 66 x = S (1218 + 4 * x + 1) ∧ B 67 x = S (1218 + 4 * x + 2) ∧ B 68 x = S (1218 + 4 * x + 3) ∧ S (1218 + 4 * x + 3) ≤ c) ∧ ∀ k, k < c → B 69 k = cdN (S (1266 + 2 * k)) (S (1266 + 2 * k + 1))
theorem rlI_f {B C : Nat → Nat → Nat} {S : Nat → Nat} {n c : Nat} (h : rlI B S n c) (f : ∀ q, q ≠ 258 → C q = B q) : rlI C S n c := by
  unfold rlI
  rw [f 64 (by decide), f 65 (by decide), f 66 (by decide), f 67 (by decide), f 68 (by decide), f 69 (by decide)]
  exact h
theorem llR_lo {S : Nat → Nat} {n kd v c x y : Nat} {cs : List (Nat × Nat)} (hn : n < 12) (hx : x < n) (hy : y < 4) : llR S n kd v c cs (1218 + 4 * x + y) = S (1218 + 4 * x + y) := by
  unfold llR
  rw [seR_ne (by omega), emL_o _ _ _ _ (by omega), seR_ne (by omega), seR_ne (by omega), seR_ne (by omega)]
theorem llR_n {S : Nat → Nat} {n kd v c : Nat} {cs : List (Nat × Nat)} (hn : n < 12) : llR S n kd v c cs (1218 + 4 * n) = kd ∧ llR S n kd v c cs (1218 + 4 * n + 1) = v ∧ llR S n kd v c cs (1218 + 4 * n + 2) = c ∧ llR S n kd v c cs (1218 + 4 * n + 3) = c + cs.length := by
  unfold llR
  refine ⟨?_, ?_, ?_, seR_at _ _ _⟩
  · rw [seR_ne (by omega), emL_o _ _ _ _ (by omega), seR_ne (by omega), seR_ne (by omega), seR_at]
  · rw [seR_ne (by omega), emL_o _ _ _ _ (by omega), seR_ne (by omega), seR_at]
  · rw [seR_ne (by omega), emL_o _ _ _ _ (by omega), seR_at]
theorem llR_c {S : Nat → Nat} {n kd v c k : Nat} {cs : List (Nat × Nat)} (hn : n < 12) (hk : k < c) (y : Nat) (hy : y < 2) : llR S n kd v c cs (1266 + 2 * k + y) = S (1266 + 2 * k + y) := by
  unfold llR
  rw [seR_ne (by omega), emL_u _ _ _ _ (by omega), seR_ne (by omega), seR_ne (by omega), seR_ne (by omega)]
theorem llR_k {S : Nat → Nat} {n kd v c k : Nat} {cs : List (Nat × Nat)} (hn : n < 12) (hk : k < cs.length) : llR S n kd v c cs (1266 + 2 * (c + k)) = (gtC cs k).1 ∧ llR S n kd v c cs (1266 + 2 * (c + k) + 1) = (gtC cs k).2 := by
  unfold llR
  rw [seR_ne (by omega), seR_ne (by omega)]
  exact emL_k _ _ _ _ hk
theorem rlI_s {B D : Nat → Nat → Nat} {S : Nat → Nat} {n c kd v : Nat} {cs : List (Nat × Nat)} (h : rlI B S n c) (hn : n < 12) (e : exL (adL B kd v) D cs) : rlI D (llR S n kd v c cs) (n + 1) (c + cs.length) := by
  obtain ⟨h0, h1, h2, h3, h4⟩ := h
  obtain ⟨e1, e2, e3, e4, e5, e6, e7⟩ := e
  rw [adL_1, h1, show n + 1 - 1 = n from rfl] at e4 e5
  rw [adL_k (by decide), h2] at e1 e2 e3
  have r5 : ∀ x, D 65 x = if x = n then kd else B 65 x := fun x => by rw [e7 65 (by decide) (by decide) (by decide) (by decide), adL_65, h1]
  have r6 : ∀ x, D 66 x = if x = n then v else B 66 x := fun x => by rw [e7 66 (by decide) (by decide) (by decide) (by decide), adL_66, h1]
  have r7 : ∀ x, D 67 x = if x = n then c else B 67 x := fun x => by rw [e7 67 (by decide) (by decide) (by decide) (by decide), adL_67, h1, h2]
  refine ⟨?_, ?_, e1, fun x hx => ?_, fun k hk => ?_⟩
  · rw [e6 0 (by decide), adL_k (by decide)]; exact h0
  · rw [e6 1 (by decide), adL_1, h1]
  · by_cases z : x = n
    · subst z
      obtain ⟨g1, g2, g3, g4⟩ := llR_n (S := S) (kd := kd) (v := v) (c := c) (cs := cs) hn
      rw [g1, g2, g3, g4, r5, r6, r7, if_pos rfl, if_pos rfl, if_pos rfl, e4, e1]
      exact ⟨rfl, rfl, rfl, rfl, Nat.le_refl _⟩
    · have hx' : x < n := by omega
      obtain ⟨g1, g2, g3, g4, g5⟩ := h3 x hx'
      have l0 := llR_lo (S := S) (kd := kd) (v := v) (c := c) (cs := cs) (y := 0) hn hx' (by decide)
      rw [Nat.add_zero] at l0
      rw [l0, llR_lo hn hx' (by decide), llR_lo hn hx' (by decide), llR_lo hn hx' (by decide), r5, r6, r7, if_neg z, if_neg z, if_neg z, e5 x z, adL_68, h1, if_neg z]
      exact ⟨g1, g2, g3, g4, by omega⟩
  · by_cases z : k < c
    · have l0 := llR_c (S := S) (n := n) (kd := kd) (v := v) (cs := cs) hn z 0 (by decide)
      rw [Nat.add_zero] at l0
      rw [e2 k z, adL_q (by decide), l0, llR_c hn z 1 (by decide)]
      exact h4 k z
    · obtain ⟨m, rfl⟩ : ∃ m, k = c + m := ⟨k - c, by omega⟩
      obtain ⟨g1, g2⟩ := llR_k (S := S) (n := n) (kd := kd) (v := v) (c := c) (k := m) (cs := cs) hn (by omega)
      rw [g1, g2]
      exact e3 m (by omega)
def rlP (A B : Nat → Nat → Nat) (t : Nat → Nat) (E : Nat) (R : Nat → Nat) : Prop := ((raL t E R).1 ≠ 4294967295 → rlI B (raL t E R).2.1 (raL t E R).1 (raL t E R).2.2.1 ∧ B 258 3 = A 258 3) ∧ ((raL t E R).1 = 4294967295 → B 258 3 = (raL t E R).2.2.2.2) ∧ frL A B
theorem llS_no {t : Nat → Nat} {E s : Nat} : llS t E s s = (false, (0, 0), [], 0, s) := by
  unfold llS lkR
  rw [mt_0 (p := 27) (by decide +kernel), mt_0 (p := 38) (by decide +kernel), mt_0 (p := 39) (by decide +kernel)]
  rfl
theorem w26 {X : gv_X} {d : Nat} {G : gv_Sh} {A : Nat → Nat → Nat} {j : Nat → Nat → Int64} {cc : gv_Rs} {P : gv_O × gv_S → Prop} {t : Nat → Nat} {E : Nat} {i : Nat} (hp261 : oX3 G 261) (H : (kI A t E i) ∧ ((1 ≤ 4 ∧ 4 < 11) ∧ (((waN t E i 4) < 4294967296) ∧ (((¬ (waN t E i 4) = 4294967295) → (tI A t E) ∧ ((A 258 2 = (tkE t E i)) ∧ (((tkE t E i) ≤ E) ∧ ((∀ A1v2 : Nat → Nat → Nat, ((kI A1v2 t E (tkE t E i)) ∧ (frR A A1v2)) → (kI A1v2 t E (tkE t E i)) ∧ ((((!decide (nmV t E (tkE t E i) 40 = 4294967295)) = true) → (A1v2 64 1 < 12) ∧ ((∀ A4 : Nat → Nat → Nat, A4 = (adL A1v2 (waN t E i 4) (A1v2 258 6)) → (tI A4 t E) ∧ ((A4 258 2 = (tkE t E (tkE t E i))) ∧ (((tkE t E (tkE t E i)) ≤ E) ∧ ((∀ A1v5 : Nat → Nat → Nat, ((kI A1v5 t E (tkE t E (tkE t E i))) ∧ (frR A4 A1v5)) → (kI A1v5 t E (tkE t E (tkE t E i))) ∧ ((1 ≤ 5 ∧ 5 < 11) ∧ (((waN t E (tkE t E (tkE t E i)) 5 = 0) → (tI A1v5 t E) ∧ ((A1v5 258 2 = (tkE t E (tkE t E (tkE t E i)))) ∧ (((tkE t E (tkE t E (tkE t E i))) ≤ E) ∧ ((∀ A1v7 : Nat → Nat → Nat, ((kI A1v7 t E (tkE t E (tkE t E (tkE t E i)))) ∧ (frR A1v5 A1v7)) → (kI A1v7 t E (tkE t E (tkE t E (tkE t E i)))) ∧ ((lnI A1v7) ∧ ((A1v7 64 2 + 1 ≤ (tkE t E (tkE t E (tkE t E i)))) ∧ ((∀ A1v8 : Nat → Nat → Nat, ((lwQ A1v7 A1v8 t E (pG t E 2100 2 0 (tkE t E (tkE t E (tkE t E i)))))) → P (.inl (some (.int (zo ((pG t E 2100 2 0 (tkE t E (tkE t E (tkE t E i)))).1)))), (G, (mI A1v8, j), cc))))))))))) ∧ ((¬ (waN t E (tkE t E (tkE t E i)) 5 = 0)) → P (.inl (some (.int (nI 1))), (G, (mI A1v5, j), cc)))))))))))) ∧ (((!decide (nmV t E (tkE t E i) 40 = 4294967295)) = false) → (∀ A9 : Nat → Nat → Nat, A9 = (gu A1v2 258 3 (A1v2 258 4)) → P (.inl (some (.int (zo false))), (G, (mI A9, j), cc)))))))))) ∧ (((waN t E i 4) = 4294967295) → (∀ A10 : Nat → Nat → Nat, A10 = (gu A 258 3 (A 258 4)) → P (.inl (some (.int (zo false))), (G, (mI A10, j), cc)))))))) : EvP X (d + 32) gvm_26 0 (gv_enter [.ref 261] 2) [] (G, (mI A, j), cc) P :=
  (pv_aload_n rfl rfl   (pv_getP rfl rfl (oX3_k hp261) (oX3_0 hp261)   (pv_ldcS rfl   (pv_virt rfl rfl rfl rfl rfl (oX7_k (oX3_0c hp261)) rfl rfl rfl (c_wordAmong (q := 4) (t := t) (E := E) (i := i) (A := A) (oX3_0c hp261) H.1 H.2.1 ) (pv_istore_n rfl rfl   (pv_iload_n rfl rfl   (pn_iconst (u := 4294967295) rfl (by decide)   (pn_ic_ne rfl H.2.2.1 (by decide) (fun c1 => (pv_aload_n rfl rfl   (pv_getP rfl rfl (oX3_k hp261) (oX3_0 hp261)   (match (c_step (t := t) (E := E) (i := (tkE t E i)) (A := A) (X := X) (d := d + 29) (G := G) (j := j) (cc := cc) (oX3_0c hp261) (H.2.2.2.1 c1).1 (H.2.2.2.1 c1).2.1 (H.2.2.2.1 c1).2.2.1 ) with | ⟨A1v2, e9x27, h2⟩ => pv_virt rfl rfl rfl rfl rfl (oX7_k (oX3_0c hp261)) rfl rfl rfl e9x27 (pv_aload_n rfl rfl   (pv_getP rfl rfl (oX3_k hp261) (oX3_0 hp261)   (pn_bipush rfl rfl   (pv_virt rfl rfl rfl rfl rfl (oX7_k (oX3_0c hp261)) rfl rfl rfl (c_isNumberTo (m := 40) (t := t) (E := E) (i := (tkE t E i)) (A := A1v2) (oX3_0c hp261) ((H.2.2.2.1 c1).2.2.2 A1v2 h2).1 (by decide) ) (pv_if_ne_zo rfl  (fun c3 => (pv_aload_n rfl rfl   (pv_getP rfl rfl (oX3_k hp261) (oX3_1 hp261)   (pv_iload_n rfl rfl   (pv_aload_n rfl rfl   (pv_getP rfl rfl (oX3_k hp261) (oX3_0 hp261)   (pn_getI rfl rfl (oX7_k (oX3_0c hp261)) rfl   (match (⟨(adL A1v2 (waN t E i 4) (A1v2 258 6)), rfl⟩ : ∃ Z : Nat → Nat → Nat, Z = (adL A1v2 (waN t E i 4) (A1v2 258 6))) with | ⟨A4, q4⟩ => pv_virt rfl rfl rfl rfl rfl (oX8_k (oX3_1c hp261)) rfl rfl rfl (ev_eqM q4 (c_addLine (a := (waN t E i 4)) (b := (A1v2 258 6)) (A := A1v2) (oX3_1c hp261) (((H.2.2.2.1 c1).2.2.2 A1v2 h2).2.1 c3).1 )) (pv_aload_n rfl rfl   (pv_getP rfl rfl (oX3_k hp261) (oX3_0 hp261)   (match (c_step (t := t) (E := E) (i := (tkE t E (tkE t E i))) (A := A4) (X := X) (d := d + 29) (G := G) (j := j) (cc := cc) (oX3_0c hp261) ((((H.2.2.2.1 c1).2.2.2 A1v2 h2).2.1 c3).2 A4 q4).1 ((((H.2.2.2.1 c1).2.2.2 A1v2 h2).2.1 c3).2 A4 q4).2.1 ((((H.2.2.2.1 c1).2.2.2 A1v2 h2).2.1 c3).2 A4 q4).2.2.1 ) with | ⟨A1v5, e8x69, h5⟩ => pv_virt rfl rfl rfl rfl rfl (oX7_k (oX3_0c hp261)) rfl rfl rfl e8x69 (pv_aload_n rfl rfl   (pv_getP rfl rfl (oX3_k hp261) (oX3_0 hp261)   (pv_ldcS rfl   (pv_virt rfl rfl rfl rfl rfl (oX7_k (oX3_0c hp261)) rfl rfl rfl (c_isWord (q := 5) (t := t) (E := E) (i := (tkE t E (tkE t E i))) (A := A1v5) (oX3_0c hp261) (((((H.2.2.2.1 c1).2.2.2 A1v2 h2).2.1 c3).2 A4 q4).2.2.2 A1v5 h5).1 (((((H.2.2.2.1 c1).2.2.2 A1v2 h2).2.1 c3).2 A4 q4).2.2.2 A1v5 h5).2.1 ) (pv_if_ne_dc rfl  (fun c6 => (pv_aload_n rfl rfl   (pv_getP rfl rfl (oX3_k hp261) (oX3_0 hp261)   (match (c_step (t := t) (E := E) (i := (tkE t E (tkE t E (tkE t E i)))) (A := A1v5) (X := X) (d := d + 29) (G := G) (j := j) (cc := cc) (oX3_0c hp261) ((((((H.2.2.2.1 c1).2.2.2 A1v2 h2).2.1 c3).2 A4 q4).2.2.2 A1v5 h5).2.2.1 c6).1 ((((((H.2.2.2.1 c1).2.2.2 A1v2 h2).2.1 c3).2 A4 q4).2.2.2 A1v5 h5).2.2.1 c6).2.1 ((((((H.2.2.2.1 c1).2.2.2 A1v2 h2).2.1 c3).2 A4 q4).2.2.2 A1v5 h5).2.2.1 c6).2.2.1 ) with | ⟨A1v7, e8x90, h7⟩ => pv_virt rfl rfl rfl rfl rfl (oX7_k (oX3_0c hp261)) rfl rfl rfl e8x90 (pv_aload_n rfl rfl   (pn_iconst rfl rfl   (match (c_readCond (t := t) (E := E) (i := (tkE t E (tkE t E (tkE t E i)))) (A := A1v7) (X := X) (d := d + 0) (G := G) (j := j) (cc := cc) hp261 (((((((H.2.2.2.1 c1).2.2.2 A1v2 h2).2.1 c3).2 A4 q4).2.2.2 A1v5 h5).2.2.1 c6).2.2.2 A1v7 h7).1 (((((((H.2.2.2.1 c1).2.2.2 A1v2 h2).2.1 c3).2 A4 q4).2.2.2 A1v5 h5).2.2.1 c6).2.2.2 A1v7 h7).2.1 (((((((H.2.2.2.1 c1).2.2.2 A1v2 h2).2.1 c3).2 A4 q4).2.2.2 A1v5 h5).2.2.1 c6).2.2.2 A1v7 h7).2.2.1 ) with | ⟨A1v8, e8x95, h8⟩ => pv_virt rfl rfl rfl rfl rfl (oX3_k hp261) rfl rfl rfl e8x95 (pv_iretz rfl rfl (zo_b _) ((((((((H.2.2.2.1 c1).2.2.2 A1v2 h2).2.1 c3).2 A4 q4).2.2.2 A1v5 h5).2.2.1 c6).2.2.2 A1v7 h7).2.2.2 A1v8 h8))))))))) (fun c6 => (pn_iconst rfl rfl   (pv_iretz rfl rfl (Or.inr rfl) ((((((H.2.2.2.1 c1).2.2.2 A1v2 h2).2.1 c3).2 A4 q4).2.2.2 A1v5 h5).2.2.2 c6)))))))))))))))))))) (fun c3 => (pv_aload_n rfl rfl   (pv_getP rfl rfl (oX3_k hp261) (oX3_0 hp261)   (match (⟨(gu A1v2 258 3 (A1v2 258 4)), rfl⟩ : ∃ Z : Nat → Nat → Nat, Z = (gu A1v2 258 3 (A1v2 258 4))) with | ⟨A9, q9⟩ => pv_virt rfl rfl rfl rfl rfl (oX7_k (oX3_0c hp261)) rfl rfl rfl (ev_eqM q9 (c_refuse (A := A1v2) (oX3_0c hp261) )) (pv_iretz rfl rfl (zo_b _) ((((H.2.2.2.1 c1).2.2.2 A1v2 h2).2.2 c3) A9 q9))))))))))))))) (fun c1 => (pv_aload_n rfl rfl   (pv_getP rfl rfl (oX3_k hp261) (oX3_0 hp261)   (match (⟨(gu A 258 3 (A 258 4)), rfl⟩ : ∃ Z : Nat → Nat → Nat, Z = (gu A 258 3 (A 258 4))) with | ⟨A10, q10⟩ => pv_virt rfl rfl rfl rfl rfl (oX7_k (oX3_0c hp261)) rfl rfl rfl (ev_eqM q10 (c_refuse (A := A) (oX3_0c hp261) )) (pv_iretz rfl rfl (zo_b _) ((H.2.2.2.2 c1) A10 q10))))))))))))))
theorem c_readLawLine_p {X : gv_X} {d : Nat} {G : gv_Sh} {A : Nat → Nat → Nat} {j : Nat → Nat → Int64} {cc : gv_Rs} {P : gv_O × gv_S → Prop} {t : Nat → Nat} {E : Nat} {i : Nat} (hp261 : oX3 G 261) (p0 : kI A t E i) (p1 : A 64 1 < 12) (p2 : A 64 2 ≤ i) (hP : ∀ A1 : Nat → Nat → Nat, (llQ A A1 t E (llS t E (skB t E i) (ltE t E (skB t E i)))) → P (.inl (some (.int (zo ((llS t E (skB t E i) (ltE t E (skB t E i))).1)))), (G, (mI A1, j), cc))) : EvP X (d + 32) gvm_26 0 (gv_enter [.ref 261] 2) [] (G, (mI A, j), cc) P := by
  obtain ⟨r, hr⟩ : ∃ r, r = (llS t E (skB t E i) (ltE t E (skB t E i))) := ⟨_, rfl⟩
  rw [← hr] at hP
  have w5 : wl 5 = 2 := by decide +kernel
  have iE := p0.2.1
  have b1 := tkE_b (t := t) iE
  have b2 := tkE_b (t := t) b1.2
  have b3 := tkE_b (t := t) b2.2
  have sb := skB_b (t := t) iE
  obtain ⟨kd, hkd⟩ : ∃ k, k = lkR t (skB t E i) (ltE t E (skB t E i)) := ⟨_, rfl⟩
  have kl : kd = 4294967295 ∨ kd ≤ 2 := by rw [hkd]; unfold lkR; (repeat' split) <;> omega
  have er : r = if kd = 4294967295 then (false, (0, 0), [], 0, skB t E i) else if nmV t E (ltE t E (skB t E i)) 40 = 4294967295 then (false, (0, 0), [], 0, skB t E (ltE t E (skB t E i))) else llT t E kd (nmV t E (ltE t E (skB t E i)) 40) (nmE t E (ltE t E (skB t E i))) := by rw [hr, hkd]; rfl
  refine w26 (t := t) (E := E) (i := i) hp261 ?_
  rw [wa_l iE, ← hkd]
  refine ⟨p0, by decide, by omega, fun c1 => ⟨p0.1, p0.2.2.2.1, b1.2, fun B h => ⟨h.1, fun c2 => ⟨by rw [h.2.1 64 (by decide)]; exact p1, fun C hC => ?_⟩, fun c2 C hC => ?_⟩⟩, fun c1 C hC => ?_⟩
  · have k2 : tkK t E i = 2 := by
      rw [hkd, ← wa_l iE] at c1
      unfold waN at c1
      by_cases z : tkK t E i = 2
      · exact z
      · rw [if_neg z] at c1; exact absurd rfl c1
    have e1 := tkE_2 k2
    have nz := (tkK_2 iE).mp k2
    have nv := nd_t c2
    obtain ⟨k1, v6, ke⟩ := tkN_v h.1 nv
    rw [if_neg c1, ← e1, if_neg nv, ← ke] at er
    obtain ⟨v, hv⟩ : ∃ v, v = nmV t E (tkE t E i) 40 := ⟨_, rfl⟩
    rw [← hv] at er v6
    rw [v6] at hC
    have cq : ∀ q, q ≠ 258 → C q = adL A kd v q := fun q hq => by rw [hC]; exact adL_c h.2.1 hq
    have c258 : C 258 = B 258 := by rw [hC]; exact adL_q (by decide)
    have c259 : C 259 = B 259 := by rw [hC]; exact adL_q (by decide)
    have kC : kI C t E (tkE t E i) := kI_of h.1 (fun k _ => by rw [c258]) c259
    refine ⟨kC.1, kC.2.2.2.1, b2.2, fun D hD => ⟨hD.1, by decide, fun c3 => ?_, fun c3 => ?_⟩⟩
    · have y5 : psB t E (tkE t E (tkE t E i)) 5 = true := by rw [← wa_5 b2.2]; exact decide_eq_true c3
      obtain ⟨j2, e3, e4⟩ := wq_ps b2.2 y5 (by omega)
      have s2 := skB_b (t := t) b2.2
      have er' : r = ((pG t E 2100 2 0 (tkE t E (tkE t E (tkE t E i)))).1, (kd, v), (pG t E 2100 2 0 (tkE t E (tkE t E (tkE t E i)))).2.1, (pG t E 2100 2 0 (tkE t E (tkE t E (tkE t E i)))).2.2) := by
        rw [er]; unfold llT; rw [if_pos y5, e3]
      refine ⟨hD.1.1, hD.1.2.2.2.1, b3.2, fun F hF => ?_⟩
      have exF : exL (adL A kd v) F [] := exL_nil (lnI_ad p1) (fun q hq => (hF.2.1 q hq).trans ((hD.2.1 q hq).trans (cq q hq)))
      have lnF := lnI_ex (lnI_ad p1) exF
      have f2 : F 64 2 = A 64 2 := exF.1.trans (by rw [adL_k (by decide)]; rfl)
      have s1 := skB_b (t := t) b1.2
      refine ⟨hF.1, lnF, by omega, fun K hK => ?_⟩
      have r1 : r.1 = (pG t E 2100 2 0 (tkE t E (tkE t E (tkE t E i)))).1 := by rw [er']
      rw [← r1]
      refine hP K ⟨fun z => ?_, fun z => ?_, ?_⟩
      · obtain ⟨g1, g2, g3⟩ := hK.1 (r1.symm.trans z)
        refine ⟨by rw [er']; exact g1, ?_, ?_⟩
        · rw [g2, frR_3 hF.2, frR_3 hD.2, c258, frR_3 h.2]
        · rw [er']
          have := exL_app exF g3
          exact this
      · obtain ⟨g1, g2⟩ := hK.2.1 (r1.symm.trans z)
        exact ⟨g1, by rw [er']; exact g2⟩
      · intro q a b
        rw [hK.2.2 q a b, hF.2.1 q b, hD.2.1 q b, cq q b, adL_q (by omega)]
    · have y5 : psB t E (tkE t E (tkE t E i)) 5 = false := by rw [← wa_5 b2.2]; exact decide_eq_false c3
      have er' : r = (true, (kd, v), [], psE t E (tkE t E (tkE t E i)) 5, skB t E (tkE t E (tkE t E i))) := by
        rw [er]; unfold llT; rw [if_neg (by rw [y5]; decide)]
      have pe : psE t E (tkE t E (tkE t E i)) 5 = skB t E (tkE t E (tkE t E i)) := by unfold psE; rw [if_neg (by rw [y5]; decide)]
      have exD : exL (adL A kd v) D [] := exL_nil (lnI_ad p1) (fun q hq => (hD.2.1 q hq).trans (cq q hq))
      refine qz1 (hP D ⟨fun _ => ⟨?_, ?_, ?_⟩, fun z => absurd z (by rw [er']; intro h; cases h), ?_⟩) (by rw [er'])
      · rw [er']
        show kI D t E (psE t E (tkE t E (tkE t E i)) 5)
        rw [pe]
        exact kI_sk hD.1 (skB_id b2.2) (skB_b (t := t) b2.2).2
      · rw [frR_3 hD.2, c258, frR_3 h.2]
      · rw [er']; exact exD
      · intro q a b
        rw [hD.2.1 q b, cq q b, adL_q (by omega)]
  · have k2 : tkK t E i = 2 := by
      rw [hkd, ← wa_l iE] at c1
      unfold waN at c1
      by_cases z : tkK t E i = 2
      · exact z
      · rw [if_neg z] at c1; exact absurd rfl c1
    have nv := nd_f c2
    rw [if_neg c1, ← tkE_2 k2, if_pos nv] at er
    obtain ⟨u1, u2, u3⟩ := ref_k h.1 hC
    have r1 : r.1 = false := by rw [er]
    rw [← r1]
    refine hP C ⟨fun z => absurd z (by rw [r1]; decide), fun _ => ⟨u1, by rw [er]; exact u2⟩, fun q a b => (u3 q b).trans (h.2.1 q b)⟩
  · rw [if_pos c1] at er
    obtain ⟨u1, u2, u3⟩ := ref_k p0 hC
    have r1 : r.1 = false := by rw [er]
    rw [← r1]
    refine hP C ⟨fun z => absurd z (by rw [r1]; decide), fun _ => ⟨u1, by rw [er]; exact u2⟩, fun q a b => u3 q b⟩
theorem c_readLawLine {X : gv_X} {d : Nat} {G : gv_Sh} {A : Nat → Nat → Nat} {j : Nat → Nat → Int64} {cc : gv_Rs} {t : Nat → Nat} {E : Nat} {i : Nat} (hp261 : oX3 G 261) (p0 : kI A t E i) (p1 : A 64 1 < 12) (p2 : A 64 2 ≤ i) : ∃ A1 : Nat → Nat → Nat, Ev X (d + 32) gvm_26 0 (gv_enter [.ref 261] 2) [] (G, (mI A, j), cc) (.inl (some (.int (zo ((llS t E (skB t E i) (ltE t E (skB t E i))).1)))), (G, (mI A1, j), cc)) ∧ (llQ A A1 t E (llS t E (skB t E i) (ltE t E (skB t E i)))) := by
  obtain ⟨_, h, A1, rfl, hp⟩ := c_readLawLine_p (X := X) (d := d) (G := G) (A := A) (j := j) (cc := cc) (t := t) (E := E) (i := i) (P := fun r => ∃ A1 : Nat → Nat → Nat, r = (.inl (some (.int (zo ((llS t E (skB t E i) (ltE t E (skB t E i))).1)))), (G, (mI A1, j), cc)) ∧ (llQ A A1 t E (llS t E (skB t E i) (ltE t E (skB t E i))))) hp261 p0 p1 p2 (fun A1 h => ⟨A1, rfl, h⟩)
  exact ⟨A1, h, hp⟩
theorem w25 {X : gv_X} {d : Nat} {G : gv_Sh} {A : Nat → Nat → Nat} {j : Nat → Nat → Int64} {cc : gv_Rs} {P : gv_O × gv_S → Prop} {t : Nat → Nat} {E : Nat} {i : Nat} (hp261 : oX3 G 261) (H : (∀ A1 : Nat → Nat → Nat, A1 = (gu (gu (gu A 64 0 1) 64 1 0) 64 2 0) → (tI A1 t E) ∧ ((A1 258 2 = i) ∧ ((i ≤ E) ∧ ((∀ A1v2 : Nat → Nat → Nat, ((kI A1v2 t E i) ∧ (frR A1 A1v2)) → EvP X (d + 33) gvm_25 16 [some (.ref 261), some (.int (nI 0))] [] (G, (mI A1v2, j), cc) P)))))) : EvP X (d + 33) gvm_25 0 (gv_enter [.ref 261] 2) [] (G, (mI A, j), cc) P :=
  (pv_aload_n rfl rfl   (pv_getP rfl rfl (oX3_k hp261) (oX3_1 hp261)   (match (⟨(gu (gu (gu A 64 0 1) 64 1 0) 64 2 0), rfl⟩ : ∃ Z : Nat → Nat → Nat, Z = (gu (gu (gu A 64 0 1) 64 1 0) 64 2 0)) with | ⟨A1, q1⟩ => pv_virt rfl rfl rfl rfl rfl (oX8_k (oX3_1c hp261)) rfl rfl rfl (ev_eqM q1 (c_clear (A := A) (oX3_1c hp261) )) (pv_aload_n rfl rfl   (pv_getP rfl rfl (oX3_k hp261) (oX3_0 hp261)   (match (c_step (t := t) (E := E) (i := i) (A := A1) (X := X) (d := d + 30) (G := G) (j := j) (cc := cc) (oX3_0c hp261) (H A1 q1).1 (H A1 q1).2.1 (H A1 q1).2.2.1 ) with | ⟨A1v2, e2x11, h2⟩ => pv_virt rfl rfl rfl rfl rfl (oX7_k (oX3_0c hp261)) rfl rfl rfl e2x11 (pn_iconst rfl rfl   (pv_istore_n rfl rfl   ((H A1 q1).2.2.2 A1v2 h2)))))))))
theorem w25_16 {X : gv_X} {d : Nat} {G : gv_Sh} {A : Nat → Nat → Nat} {j : Nat → Nat → Int64} {cc : gv_Rs} {P : gv_O × gv_S → Prop} {l1 : Nat} {t : Nat → Nat} {E : Nat} {i : Nat} (hp261 : oX3 G 261) (H : (l1 < 2147483648) ∧ (((12 ≤ l1) → EvP X (d + 33) gvm_25 57 [some (.ref 261), some (.int (nI l1))] [] (G, (mI A, j), cc) P) ∧ ((l1 < 12) → ((A 258 5) < 4294967296) ∧ ((((A 258 5) = 0) → EvP X (d + 33) gvm_25 57 [some (.ref 261), some (.int (nI l1))] [] (G, (mI A, j), cc) P) ∧ ((¬ (A 258 5) = 0) → (kI A t E i) ∧ ((A 64 1 < 12) ∧ ((A 64 2 ≤ i) ∧ ((∀ A1v1 : Nat → Nat → Nat, ((llQ A A1v1 t E (llS t E (skB t E i) (ltE t E (skB t E i))))) → ((((llS t E (skB t E i) (ltE t E (skB t E i))).1) = false) → P (.inl (some (.int (nI 0))), (G, (mI A1v1, j), cc))) ∧ ((((llS t E (skB t E i) (ltE t E (skB t E i))).1) = true) → EvP X (d + 33) gvm_25 39 [some (.ref 261), some (.int (nI l1))] [] (G, (mI A1v1, j), cc) P)))))))))) : EvP X (d + 33) gvm_25 16 [some (.ref 261), some (.int (nI l1))] [] (G, (mI A, j), cc) P :=
  (pv_iload_n rfl rfl   (pn_bipush rfl rfl   (pn_ic_ge rfl H.1 (by decide) (fun c1 => (H.2.1 c1)) (fun c1 => (pv_aload_n rfl rfl   (pv_getP rfl rfl (oX3_k hp261) (oX3_0 hp261)   (pn_getI rfl rfl (oX7_k (oX3_0c hp261)) rfl   (pn_if_eq rfl (H.2.2 c1).1 (fun c2 => ((H.2.2 c1).2.1 c2)) (fun c2 => (pv_aload_n rfl rfl   (match (c_readLawLine (t := t) (E := E) (i := i) (A := A) (X := X) (d := d + 0) (G := G) (j := j) (cc := cc) hp261 ((H.2.2 c1).2.2 c2).1 ((H.2.2 c1).2.2 c2).2.1 ((H.2.2 c1).2.2 c2).2.2.1 ) with | ⟨A1v1, e1x33, h3⟩ => pv_virt rfl rfl rfl rfl rfl (oX3_k hp261) rfl rfl rfl e1x33 (pv_if_eq_zo rfl  (fun c4 => (pn_iconst rfl rfl   (pv_iretz rfl rfl (Or.inl rfl) ((((H.2.2 c1).2.2 c2).2.2.2 A1v1 h3).1 c4)))) (fun c4 => ((((H.2.2 c1).2.2 c2).2.2.2 A1v1 h3).2 c4))))))))))))))
theorem w25_39 {X : gv_X} {d : Nat} {G : gv_Sh} {A : Nat → Nat → Nat} {j : Nat → Nat → Int64} {cc : gv_Rs} {P : gv_O × gv_S → Prop} {l1 : Nat} {t : Nat → Nat} {E : Nat} {i : Nat} (hp261 : oX3 G 261) (H : (kI A t E i) ∧ ((∀ A1v1 : Nat → Nat → Nat, ((rdP A A1v1 t E (elB t E i) (elE t E i) (elX t E i)) ∧ (∀ q, q ≠ 258 → A1v1 q = A q)) → (((elB t E i) = true) → EvP X (d + 33) gvm_25 16 [some (.ref 261), some (.int (nI (l1 + 1)))] [] (G, (mI A1v1, j), cc) P) ∧ (((elB t E i) = false) → P (.inl (some (.int (nI 0))), (G, (mI A1v1, j), cc)))))) : EvP X (d + 33) gvm_25 39 [some (.ref 261), some (.int (nI l1))] [] (G, (mI A, j), cc) P :=
  (pv_aload_n rfl rfl   (pv_getP rfl rfl (oX3_k hp261) (oX3_0 hp261)   (match (c_endLine (t := t) (E := E) (i := i) (A := A) (X := X) (d := d + 29) (G := G) (j := j) (cc := cc) (oX3_0c hp261) H.1 ) with | ⟨A1v1, e1x43, h1⟩ => pv_virt rfl rfl rfl rfl rfl (oX7_k (oX3_0c hp261)) rfl rfl rfl e1x43 (pv_if_ne_zo rfl  (fun c2 => (pn_iinc rfl rfl rfl rfl   (pv_goto rfl ((H.2 A1v1 h1).1 c2)))) (fun c2 => (pn_iconst rfl rfl   (pv_iretz rfl rfl (Or.inl rfl) ((H.2 A1v1 h1).2 c2))))))))
theorem w25_57 {X : gv_X} {d : Nat} {G : gv_Sh} {A : Nat → Nat → Nat} {j : Nat → Nat → Int64} {cc : gv_Rs} {P : gv_O × gv_S → Prop} {l1 : Nat} (hp261 : oX3 G 261) (H : ((A 258 5) < 4294967296) ∧ ((((A 258 5) = 0) → P (.inl (some (.int (nI 1))), (G, (mI A, j), cc))) ∧ ((¬ (A 258 5) = 0) → (∀ A2 : Nat → Nat → Nat, A2 = (gu A 258 3 (A 258 4)) → ((false = false) → P (.inl (some (.int (nI 0))), (G, (mI A2, j), cc))) ∧ ((false = true) → P (.inl (some (.int (nI 1))), (G, (mI A2, j), cc))))))) : EvP X (d + 33) gvm_25 57 [some (.ref 261), some (.int (nI l1))] [] (G, (mI A, j), cc) P :=
  (pv_aload_n rfl rfl   (pv_getP rfl rfl (oX3_k hp261) (oX3_0 hp261)   (pn_getI rfl rfl (oX7_k (oX3_0c hp261)) rfl   (pn_if_eq rfl H.1 (fun c1 => (pn_iconst rfl rfl   (pv_goto rfl (pv_iretz rfl rfl (Or.inr rfl) (H.2.1 c1))))) (fun c1 => (pv_aload_n rfl rfl   (pv_getP rfl rfl (oX3_k hp261) (oX3_0 hp261)   (match (⟨(gu A 258 3 (A 258 4)), rfl⟩ : ∃ Z : Nat → Nat → Nat, Z = (gu A 258 3 (A 258 4))) with | ⟨A2, q2⟩ => pv_virt rfl rfl rfl rfl rfl (oX7_k (oX3_0c hp261)) rfl rfl rfl (ev_eqM q2 (c_refuse (A := A) (oX3_0c hp261) )) (pv_if_eq_zo rfl  (fun c3 => (pn_iconst rfl rfl   (pv_iretz rfl rfl (Or.inl rfl) (((H.2.2 c1) A2 q2).1 c3)))) (fun c3 => (pn_iconst rfl rfl   (pv_goto rfl (pv_iretz rfl rfl (Or.inr rfl) (((H.2.2 c1) A2 q2).2 c3))))))))))))))
theorem c_readLaw_p {X : gv_X} {d : Nat} {G : gv_Sh} {A : Nat → Nat → Nat} {j : Nat → Nat → Int64} {cc : gv_Rs} {P : gv_O × gv_S → Prop} {t : Nat → Nat} {E : Nat} {R : Nat → Nat} (hp261 : oX3 G 261) (p0 : tI A t E) (p1 : A 258 2 = 0) (hP : ∀ A1 : Nat → Nat → Nat, (rlP A A1 t E R) → P (.inl (some (.int (zo (!decide ((raL t E R).1 = 4294967295))))), (G, (mI A1, j), cc))) : EvP X (d + 33) gvm_25 0 (gv_enter [.ref 261] 2) [] (G, (mI A, j), cc) P := by
  obtain ⟨r, hr⟩ : ∃ r, r = raL t E R := ⟨_, rfl⟩
  have OK : ∀ B, r.1 ≠ 4294967295 → rlI B r.2.1 r.1 r.2.2.1 → B 258 3 = A 258 3 → frL A B → P (.inl (some (.int (nI 1))), (G, (mI B, j), cc)) := fun B h1 h2 h3 h4 => by
    rw [hr] at h1 h2
    exact qz1 (hP B ⟨fun _ => ⟨h2, h3⟩, fun z => absurd z h1, h4⟩) (by rw [decide_eq_false h1]; rfl)
  have NO : ∀ B, r.1 = 4294967295 → B 258 3 = r.2.2.2.2 → frL A B → P (.inl (some (.int (nI 0))), (G, (mI B, j), cc)) := fun B h1 h2 h4 => by
    rw [hr] at h1 h2
    exact qz0 (hP B ⟨fun z => absurd h1 z, fun _ => h2, h4⟩) (by rw [decide_eq_true h1]; rfl)
  have X57 : ∀ B n c S i, kI B t E i → n ≤ 12 → rlI B S n c → B 258 3 = A 258 3 → frL A B → (tkK t E i = 0 → r.1 = n ∧ r.2.1 = S ∧ r.2.2.1 = c) → (tkK t E i ≠ 0 → n = 12 ∧ r = laS t E 1 S 12 c i) → EvP X (d + 33) gvm_25 57 [some (.ref 261), some (.int (nI n))] [] (G, (mI B, j), cc) P := fun B n c S i k hn w h3 fr h4 h5 => by
    have kl := tkK_le (t := t) (E := E) (i := i)
    have k5 := k.2.2.2.2.1
    refine w25_57 hp261 ⟨by omega, fun z => ?_, fun z C hC => ⟨fun _ => ?_, fun z => by cases z⟩⟩
    · obtain ⟨h6, h7, h8⟩ := h4 (by omega)
      exact OK B (by omega) (by rw [h6, h7, h8]; exact w) h3 fr
    · obtain ⟨u1, u2, u3⟩ := ref_k k hC
      obtain ⟨_, h6⟩ := h5 (by omega)
      have e : r = (4294967295, S, c, 0, skB t E i) := h6
      exact NO C (by rw [e]) (by rw [e]; exact u2) (fun q a b => (u3 q b).trans (fr q a b))
  have L : ∀ f n c S i B, n + f = 12 → c ≤ i → kI B t E i → rlI B S n c → B 258 3 = A 258 3 → frL A B → (tkK t E i = 0 → r.1 = n ∧ r.2.1 = S ∧ r.2.2.1 = c) → (tkK t E i ≠ 0 → r = laS t E (f + 1) S n c i) → EvP X (d + 33) gvm_25 16 [some (.ref 261), some (.int (nI n))] [] (G, (mI B, j), cc) P := by
    intro f
    induction f with
    | zero =>
      intro n c S i B e1 hc k w h3 fr h4 h5
      obtain rfl : n = 12 := by omega
      exact w25_16 (t := t) (E := E) (i := i) hp261 ⟨by omega, fun _ => X57 B 12 c S i k (by omega) w h3 fr h4 (fun z => ⟨rfl, h5 z⟩), fun z => absurd z (by omega)⟩
    | succ f ih =>
      intro n c S i B e1 hc k w h3 fr h4 h5
      have kl := tkK_le (t := t) (E := E) (i := i)
      have k5 := k.2.2.2.2.1
      have w1 := w.2.1
      have w2 := w.2.2.1
      refine w25_16 (t := t) (E := E) (i := i) hp261 ⟨by omega, fun z => absurd z (by omega), fun cn => ⟨by omega, fun c1 => X57 B n c S i k (by omega) w h3 fr h4 (fun z => absurd (k5.symm.trans c1) z), fun c1 => ⟨k, by omega, by omega, fun C hC => ?_⟩⟩⟩
      have h6 := h5 (by omega)
      obtain ⟨q, hq⟩ : ∃ q, q = lnS t E n i := ⟨_, rfl⟩
      have bq : llS t E (skB t E i) (ltE t E (skB t E i)) = q := by rw [hq]; unfold lnS; rw [if_pos cn]
      have st : laS t E (f + 1 + 1) S n c i = if q.1 = true then (if skB t E q.2.2.2.1 = E then (n + 1, llR S n q.2.1.1 q.2.1.2 c q.2.2.1, c + q.2.2.1.length, skB t E q.2.2.2.1, skB t E q.2.2.2.1) else if t (skB t E q.2.2.2.1) = 59 then laS t E (f + 1) (llR S n q.2.1.1 q.2.1.2 c q.2.2.1) (n + 1) (c + q.2.2.1.length) (skB t E q.2.2.2.1 + 1) else (4294967295, S, c, 0, skB t E q.2.2.2.1)) else (4294967295, S, c, 0, q.2.2.2.2) := by rw [hq]; rfl
      rw [st] at h6
      rw [bq] at hC ⊢
      obtain ⟨g1, g2, g3⟩ := hC
      have frC := frL_tr fr g3
      refine ⟨fun c2 => ?_, fun c2 => ?_⟩
      · obtain ⟨u1, u2⟩ := g2 c2
        rw [if_neg (by rw [c2]; decide)] at h6
        exact NO C (by rw [h6]) (by rw [h6]; exact u2) frC
      · obtain ⟨kx, x3, xe⟩ := g1 c2
        have lb := lnS_b k.2.1 (by rw [← hq]; exact c2)
        rw [← hq] at lb
        obtain ⟨x, hx⟩ : ∃ x, x = q.2.2.2.1 := ⟨_, rfl⟩
        rw [← hx] at kx lb h6
        have sx := skB_b (t := t) kx.2.1
        have bx := tkE_b (t := t) kx.2.1
        rw [if_pos c2] at h6
        refine w25_39 (i := x) hp261 ⟨kx, fun D hD => ⟨fun c3 => ?_, fun c3 => ?_⟩⟩
        · obtain ⟨kD, d3⟩ := hD.1.1 c3
          have frE : frL A D := fun q a b => (hD.2 q b).trans (frC q a b)
          have wD : rlI D (llR S n q.2.1.1 q.2.1.2 c q.2.2.1) (n + 1) (c + q.2.2.1.length) := rlI_f (rlI_s w (by omega) xe) hD.2
          unfold elB at c3
          unfold elE at kD
          by_cases z : tkK t E x = 0
          · rw [if_pos z] at kD
            rw [if_pos (tkK_0.mp z)] at h6
            exact ih (n + 1) (c + q.2.2.1.length) _ x D (by omega) (by omega) kD wD (d3.trans (x3.trans h3)) frE (fun _ => by rw [h6]; exact ⟨rfl, rfl, rfl⟩) (fun y => absurd z y)
          · rw [if_neg z] at c3 kD
            by_cases y : sgB t E x 59 = true
            · rw [if_pos y] at c3
              have ys := of_decide_eq_true y
              have e2 := (tkK_s kx.2.1 (by omega) y).2
              have nz : tkK t E (tkE t E x) ≠ 0 := fun u => by rw [decide_eq_true u] at c3; cases c3
              rw [if_neg (by omega), if_pos ys.2, ← e2] at h6
              exact ih (n + 1) (c + q.2.2.1.length) _ (tkE t E x) D (by omega) (by omega) kD wD (d3.trans (x3.trans h3)) frE (fun u => absurd u nz) (fun _ => h6)
            · rw [if_neg y] at c3; cases c3
        · obtain ⟨tD, d3⟩ := hD.1.2 c3
          have frE : frL A D := fun q a b => (hD.2 q b).trans (frC q a b)
          unfold elB at c3
          unfold elX at d3
          by_cases z : tkK t E x = 0
          · rw [if_pos z] at c3; cases c3
          · rw [if_neg z] at c3
            have nE : skB t E x ≠ E := fun u => z (tkK_0.mpr u)
            rw [if_neg nE] at h6
            by_cases y : sgB t E x 59 = true
            · rw [if_pos y] at c3 d3
              have ys := of_decide_eq_true y
              have e2 := (tkK_s kx.2.1 (by omega) y).2
              rw [if_pos ys.2, ← e2] at h6
              have z0 : tkK t E (tkE t E x) = 0 := by
                by_cases u : tkK t E (tkE t E x) = 0
                · exact u
                · rw [decide_eq_false u] at c3; cases c3
              have sE := tkK_0.mp z0
              have b0 : lnS t E (n + 1) (tkE t E x) = (false, (0, 0), [], 0, skB t E (tkE t E x)) := by
                have le : ltE t E (skB t E (tkE t E x)) = skB t E (tkE t E x) := skp_e (by omega) (by omega)
                unfold lnS
                rw [le, llS_no]
                split <;> rfl
              have h7 : r = (4294967295, llR S n q.2.1.1 q.2.1.2 c q.2.2.1, c + q.2.2.1.length, 0, skB t E (tkE t E x)) := by
                rw [h6]
                show (if (lnS t E (n + 1) (tkE t E x)).1 = true then _ else (4294967295, _, _, 0, (lnS t E (n + 1) (tkE t E x)).2.2.2.2)) = _
                rw [b0]; rfl
              exact NO D (by rw [h7]) (by rw [h7]; exact d3) frE
            · rw [if_neg y] at d3
              have n59 : t (skB t E x) ≠ 59 := fun u => y (decide_eq_true ⟨by omega, u⟩)
              rw [if_neg n59] at h6
              exact NO D (by rw [h6]) (by rw [h6]; exact d3) frE
  have s0 := skB_b (t := t) (Nat.zero_le E)
  refine w25 (t := t) (E := E) (i := 0) hp261 (fun C hC => ?_)
  have cq : ∀ q, q ≠ 64 → C q = A q := fun q hq => by rw [hC, gu_row hq, gu_row hq, gu_row hq]
  refine ⟨tI_of p0 (by rw [cq 258 (by decide)]) (cq 259 (by decide)), by rw [cq 258 (by decide)]; exact p1, Nat.zero_le _, fun B h => L 12 0 0 R (skB t E 0) B rfl (Nat.zero_le _) (kI_sk h.1 (skB_id (Nat.zero_le _)) s0.2) ?_ ((frR_3 h.2).trans (by rw [cq 258 (by decide)])) (fun q a b => (h.2.1 q b).trans (cq q (by omega))) (fun z => ?_) (fun z => ?_)⟩
  · refine rlI_f ⟨?_, ?_, ?_, fun x hx => absurd hx (Nat.not_lt_zero _), fun x hx => absurd hx (Nat.not_lt_zero _)⟩ h.2.1
    · rw [hC, gu_k (by decide) rfl, gu_k (by decide) rfl, gu_hit]
    · rw [hC, gu_k (by decide) rfl, gu_hit]
    · rw [hC, gu_hit]
  · have e : skB t E 0 = E := by have := tkK_0.mp z; rw [skB_id (Nat.zero_le _)] at this; exact this
    rw [hr]; unfold raL; rw [if_pos e]
    exact ⟨rfl, rfl, rfl⟩
  · rw [hr]; unfold raL
    rw [if_neg (fun e => z (tkK_0.mpr (by rw [skB_id (Nat.zero_le _)]; exact e)))]
theorem c_readLaw {X : gv_X} {d : Nat} {G : gv_Sh} {A : Nat → Nat → Nat} {j : Nat → Nat → Int64} {cc : gv_Rs} {t : Nat → Nat} {E : Nat} {R : Nat → Nat} (hp261 : oX3 G 261) (p0 : tI A t E) (p1 : A 258 2 = 0) : ∃ A1 : Nat → Nat → Nat, Ev X (d + 33) gvm_25 0 (gv_enter [.ref 261] 2) [] (G, (mI A, j), cc) (.inl (some (.int (zo (!decide ((raL t E R).1 = 4294967295))))), (G, (mI A1, j), cc)) ∧ (rlP A A1 t E R) := by
  obtain ⟨_, h, A1, rfl, hp⟩ := c_readLaw_p (X := X) (d := d) (G := G) (A := A) (j := j) (cc := cc) (t := t) (E := E) (R := R) (P := fun r => ∃ A1 : Nat → Nat → Nat, r = (.inl (some (.int (zo (!decide ((raL t E R).1 = 4294967295))))), (G, (mI A1, j), cc)) ∧ (rlP A A1 t E R)) hp261 p0 p1 (fun A1 h => ⟨A1, rfl, h⟩)
  exact ⟨A1, h, hp⟩
