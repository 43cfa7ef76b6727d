/-! the class: a bench read, bench -/
/-- what a bench leaves as it is -/
def kpB (R S : Nat → Nat) : Prop := (∀ i, (i = 1 ∨ i = 2 ∨ i = 8 ∨ i = 10 ∨ i = 11 ∨ 102 ≤ i) → S i = R i) ∧ R 0 ≤ S 0 ∧ ∀ i, 30 ≤ i → i < 30 + 9 * R 0 → S i = R i
theorem kpB_rf (R : Nat → Nat) : kpB R R := ⟨fun _ _ => rfl, Nat.le_refl _, fun _ _ _ => rfl⟩
theorem kpB_tr {R S T : Nat → Nat} (h : kpB R S) (h2 : kpB S T) : kpB R T := ⟨fun i hi => (h2.1 i hi).trans (h.1 i hi), Nat.le_trans h.2.1 h2.2.1, fun i a b => (h2.2.2 i a (by have := h.2.1; omega)).trans (h.2.2 i a b)⟩
theorem kpB_o {R S : Nat → Nat} (h : ∀ i, i = 0 ∨ i = 1 ∨ i = 2 ∨ i = 8 ∨ i = 10 ∨ i = 11 ∨ 30 ≤ i → S i = R i) : kpB R S := ⟨fun i hi => h i (by omega), by rw [h 0 (by omega)]; exact Nat.le_refl _, fun i a b => h i (by omega)⟩
theorem ceS_k {t : Nat → Nat} {E : Nat} : ∀ {f : Nat} {R : Nat → Nat} {n i x : Nat}, ¬ (22 ≤ x ∧ x < 30) → (ceS t E f R n i).2.1 x = R x
  | 0, _, _, _, _, _ => rfl
  | f + 1, R, n, i, x, hx => by
    show (if nmV t E i 3 = 4294967295 ∨ 8 ≤ n then (false, R, nmE t E i, skB t E i) else if nnB t E (nmE t E i) = true then ceS t E f (seR R (22 + n) (nmV t E i 3)) (n + 1) (skB t E (nmE t E i)) else (true, seR R (22 + n) (nmV t E i 3), skB t E (nmE t E i), skB t E (nmE t E i))).2.1 x = R x
    split
    · rfl
    · rename_i c
      split
      · rw [ceS_k hx, seR_ne (by omega)]
      · exact seR_ne (by omega)
theorem pgS_k {t : Nat → Nat} {E : Nat} : ∀ {f : Nat} {R : Nat → Nat} {n i x : Nat}, x ≠ 3 → ¬ (12 ≤ x ∧ x < 22) → (pgS t E f R n i).2.1 x = R x
  | 0, _, _, _, _, _, _ => rfl
  | f + 1, R, n, i, x, h3, hx => by
    show (if nnB t E i = true then (if nmV t E i ((R 0 + 4294967296 - 1) % 4294967296) = 4294967295 ∨ 10 ≤ n then (false, seR R 3 (n + 1), nmE t E i, skB t E i) else pgS t E f (seR R (12 + n) (nmV t E i ((R 0 + 4294967296 - 1) % 4294967296))) (n + 1) (nmE t E i)) else (true, seR R 3 n, skB t E i, skB t E i)).2.1 x = R x
    split
    · split
      · exact seR_ne h3
      · rename_i c
        rw [pgS_k h3 hx, seR_ne (by omega)]
    · exact seR_ne h3
theorem rnS_k {t R : Nat → Nat} {E i a h x : Nat} (hx : x ≠ a) : (rnS t E R i a h).2.1 x = R x := by
  unfold rnS
  show (if nmV t E i h = 4294967295 then R else seR R a (nmV t E i h)) x = R x
  split
  · rfl
  · exact seR_ne hx
theorem shS_k {t R : Nat → Nat} {E i x : Nat} (hx : x ≠ 5) : (shS t E R i).2.1 x = R x := by
  unfold shS
  show (if nmV t E i 3 = 4294967295 then R else seR R 5 (nmV t E i 3 * 2)) x = R x
  split
  · rfl
  · exact seR_ne hx
theorem okD_0 {R : Nat → Nat} {p : Nat} {b : Bool} : okD R (seR (zpN R p 9) (30 + 9 * p + 1) b.toNat) p := by
  refine ⟨fun x hx => ?_, ?_, ?_, ?_, fun x hx => ⟨?_, ?_⟩⟩
  · rw [seR_ne (by omega)]; unfold zpN; rw [if_neg (by omega)]
  · rw [seR_ne (by omega)]; unfold zpN; rw [if_pos (by omega)]; omega
  · rw [seR_at]; cases b <;> decide
  · rw [seR_ne (by omega)]; unfold zpN; rw [if_pos (by omega)]; omega
  · rw [seR_ne (by omega)]; unfold zpN; rw [if_pos (by omega)]; omega
  · rw [seR_ne (by omega)]; unfold zpN; rw [if_pos (by omega)]; omega
theorem opS_k {t R : Nat → Nat} {E i b : Nat} (h : okW R) (hi : i ≤ E) (hs : (opS t E R i b).1 = true) : kpB R (opS t E R i b).2.1 := by
  have n := okW_n h
  have b1 := psE_b (t := t) (q := 2) hi
  unfold opS at hs ⊢
  by_cases c : R 0 = 8
  · rw [if_pos c] at hs; cases hs
  · rw [if_neg c] at hs ⊢
    obtain ⟨m, hm⟩ : ∃ m, m = msS t E (R 0) (seR (zpN R (R 0) 9) (30 + 9 * R 0 + 1) (psB t E i 2).toNat) (psE t E i 2) := ⟨_, rfl⟩
    rw [← hm] at hs ⊢
    by_cases d : m.1 = true
    · rw [if_pos d]
      have k := (msS_ok (t := t) (R := R) (p := R 0) (i := psE t E i 2) okD_0 b1.2 (by rw [← hm]; exact d)).1
      rw [← hm] at k
      have s0 : m.2.1 0 = R 0 := k.1 0 (by omega)
      refine ⟨fun x hx => ?_, ?_, fun x a b => ?_⟩
      · show seR m.2.1 0 (m.2.1 0 + 1) x = R x
        rw [seR_ne (by omega)]; exact k.1 x (by omega)
      · show R 0 ≤ seR m.2.1 0 (m.2.1 0 + 1) 0
        rw [seR_at]; omega
      · show seR m.2.1 0 (m.2.1 0 + 1) x = R x
        rw [seR_ne (by omega)]; exact k.1 x (by omega)
    · rw [if_neg d] at hs; exact absurd hs d
theorem blS_k {t R : Nat → Nat} {E i b : Nat} (h : okW R) (hi : i ≤ E) (hs : (blS t E R i b).1 = true) : kpB R (blS t E R i b).2.1 := by
  unfold blS at hs ⊢
  split
  · rename_i c; rw [if_pos c] at hs; exact opS_k h hi hs
  · split
    · exact kpB_o (fun x hx => pgS_k (by omega) (by omega))
    · split
      · exact kpB_o (fun x hx => ceS_k (by omega))
      · split
        · exact kpB_o (fun x hx => rnS_k (by omega))
        · split
          · exact kpB_o (fun x hx => shS_k (by omega))
          · split
            · exact kpB_o (fun x hx => rnS_k (by omega))
            · split
              · exact kpB_o (fun x hx => rnS_k (by omega))
              · split
                · exact kpB_o (fun x hx => rnS_k (by omega))
                · exact kpB_rf R
theorem bnS_k {t R : Nat → Nat} {E n i : Nat} (h : okW R) (hi : i ≤ E) (hs : (bnS t E R n i).1 = true) : kpB R (bnS t E R n i).2.1 := by
  unfold bnS at hs ⊢
  by_cases c : n < 14
  · rw [if_pos c] at hs ⊢
    exact blS_k h (ltE_b (t := t) (skB_b (t := t) hi).2).2 hs
  · rw [if_neg c] at hs; cases hs
theorem baS_k {t : Nat → Nat} {E : Nat} : ∀ {f : Nat} {R : Nat → Nat} {n i : Nat}, okW R → i ≤ E → (baS t E f R n i).1 ≠ 4294967295 → kpB R (baS t E f R n i).2.1
  | 0, _, _, _, _, _, h => absurd rfl h
  | f + 1, R, n, i, o, hi, h => by
    have st : baS t E (f + 1) R n i = if (bnS t E R n i).1 = true then (if skB t E (bnS t E R n i).2.2.1 = E then (n + 1, (bnS t E R n i).2.1, skB t E (bnS t E R n i).2.2.1, skB t E (bnS t E R n i).2.2.1) else if t (skB t E (bnS t E R n i).2.2.1) = 59 then baS t E f (bnS t E R n i).2.1 (n + 1) (skB t E (bnS t E R n i).2.2.1 + 1) else (4294967295, (bnS t E R n i).2.1, skB t E (bnS t E R n i).2.2.1, skB t E (bnS t E R n i).2.2.1)) else (4294967295, (bnS t E R n i).2) := rfl
    rw [st] at h ⊢
    by_cases c : (bnS t E R n i).1 = true
    · rw [if_pos c] at h ⊢
      have k := bnS_ok o hi c
      have kk := bnS_k o hi c
      by_cases d : skB t E (bnS t E R n i).2.2.1 = E
      · rw [if_pos d]; exact kk
      · rw [if_neg d] at h ⊢
        by_cases e : t (skB t E (bnS t E R n i).2.2.1) = 59
        · rw [if_pos e] at h ⊢
          have sb := skB_b (t := t) k.2.1
          exact kpB_tr kk (baS_k k.1 (by omega) h)
        · rw [if_neg e] at h; exact absurd rfl h
    · rw [if_neg c] at h; exact absurd rfl h
theorem raB_k {t R : Nat → Nat} {E : Nat} (o : okW R) (h : (raB t E R).1 ≠ 4294967295) : kpB R (raB t E R).2.1 := by
  unfold raB at h ⊢
  split
  · exact kpB_rf R
  · rename_i c
    rw [if_neg c] at h
    exact baS_k o (skB_b (t := t) (Nat.zero_le _)).2 h
theorem knI_B {A : Nat → Nat → Nat} {R S : Nat → Nat} (w : okW R) (h : knI A R) (e : kpB R S) : knI A S := fun g p x a b c => by
  rcases h g p x a b c with z | ⟨z, y⟩
  · exact Or.inl z
  · refine Or.inr ⟨Nat.lt_of_lt_of_le z e.2.1, ?_⟩
    rw [y]
    have hl := (okW_o w b).1
    have ee : ∀ i, i < 9 → S (30 + 9 * p + i) = R (30 + 9 * p + i) := fun i hi => e.2.2 _ (by omega) (by omega)
    refine (wit_congr ⟨?_, ?_, fun k hk => ⟨?_, ?_⟩⟩ x).symm
    · show seR S _ g _ = seR R _ g _
      unfold seR; rw [if_neg (by omega), if_neg (by omega)]; exact ee 0 (by omega)
    · show seR S _ g _ = seR R _ g _
      unfold seR; rw [if_pos rfl, if_pos rfl]
    all_goals
      have hk : k < seR S (30 + 9 * p + 1) g (30 + 9 * p + 0) := hk
      unfold seR at hk
      rw [if_neg (by omega), ee 0 (by omega)] at hk
      show seR S _ g _ = seR R _ g _
      unfold seR; rw [if_neg (by omega), if_neg (by omega)]; exact ee _ (by omega)
theorem okW_tx {R : Nat → Nat} {v : Nat} (h : okW R) (hv : v ≤ 12) : okW (seR R 1 v) := by
  have n := okW_n h
  have g : ∀ i, i ≠ 1 → seR R 1 v i = R i := fun i hi => seR_ne hi
  obtain ⟨T, hT⟩ : ∃ T, seR R 1 v = T := ⟨_, rfl⟩
  have g1 : T 1 = v := by rw [← hT]; exact seR_at _ _ _
  rw [hT] at g ⊢
  refine ⟨?_, fun k hk => ?_, fun k hk => ?_, fun k hk => ?_, fun q hq => ?_, fun q hq => ?_, fun q hq => ?_, fun k hk => ?_⟩
  · rw [g1, g 0 (by omega), g 2 (by omega), g 3 (by omega), g 4 (by omega), g 5 (by omega), g 6 (by omega), g 7 (by omega), g 8 (by omega), g 9 (by omega), g 10 (by omega), g 11 (by omega)]
    exact ⟨n.1, hv, n.2.2⟩
  · rw [g _ (by omega)]; exact okW_p h hk
  · rw [g 3 (by omega)] at hk; rw [g 0 (by omega), g _ (by omega)]; exact okW_pl h hk
  · rw [g _ (by omega)]; exact h.2.2.2.1 k hk
  · have e : (fun i => T (30 + 9 * q + i)) = fun i => R (30 + 9 * q + i) := funext (fun i => g _ (by omega))
    rw [e]; exact h.2.2.2.2.1 q hq
  · rw [g 0 (by omega)] at hq
    rw [g _ (by omega)]; exact okW_1 h hq
  · have e : (fun i => T (102 + 13 * q + i)) = fun i => R (102 + 13 * q + i) := funext (fun i => g _ (by omega))
    rw [e]; exact h.2.2.2.2.2.2.1 q hq
  · rw [g _ (by omega)]; exact okW_l h hk
theorem blS_no {t R : Nat → Nat} {E s : Nat} : blS t E R s s = (false, R, s, s) := by
  unfold blS
  rw [mt_0 (p := 22) (by decide +kernel), mt_0 (p := 23) (by decide +kernel), mt_0 (p := 24) (by decide +kernel), mt_0 (p := 25) (by decide +kernel), mt_0 (p := 26) (by decide +kernel), mt_0 (p := 27) (by decide +kernel), mt_0 (p := 28) (by decide +kernel), mt_0 (p := 29) (by decide +kernel)]
  rfl
def rbP (A B : Nat → Nat → Nat) (t : Nat → Nat) (E : Nat) (R : Nat → Nat) : Prop := ((raB t E R).1 ≠ 4294967295 → rW B 17 (raB t E R).2.1 ∧ B 258 3 = A 258 3) ∧ ((raB t E R).1 = 4294967295 → B 258 3 = (raB t E R).2.2.2) ∧ frD A B
def spBe (t : Nat → Nat) (E : Nat) (R : Nat → Nat) : Nat × Nat := if (raB t E R).1 = 4294967295 then (1, 0) else if R 1 = 12 then (2, 0) else (0, R 1 + 1)
def beP (A B : Nat → Nat → Nat) (t : Nat → Nat) (E : Nat) (R : Nat → Nat) : Prop := ((spBe t E R).1 = 0 → cK B (boR (seR (raB t E R).2.1 1 ((raB t E R).2.1 1 + 1))) ∧ B 76 1 = 0 ∧ B 76 2 = A 76 2) ∧ ((spBe t E R).1 ≠ 0 → cK B R ∧ B 76 = A 76) ∧ B 0 1 = 0 ∧ B 0 2 = (if (raB t E R).1 = 4294967295 then (raB t E R).2.2.2 else 4294967295) ∧ (∀ k, k ≠ 1 → k ≠ 2 → B 0 k = A 0 k) ∧ ∀ q, q ≠ 0 → ¬ (2 ≤ q ∧ q ≤ 31) → q ≠ 61 → q ≠ 76 → q ≠ 258 → q ≠ 259 → B q = A q
theorem w1 {X : gv_X} {d : Nat} {G : gv_Sh} {A : Nat → Nat → Nat} {j : Nat → Nat → Int64} {cc : gv_Rs} {P : gv_O × gv_S → Prop} {t : Nat → Nat} {E : Nat} {i : Nat} (hp260 : oX0 G 260) (H : (tI A t E) ∧ ((A 258 2 = i) ∧ ((i ≤ E) ∧ ((∀ A1v1 : Nat → Nat → Nat, ((kI A1v1 t E i) ∧ (frR A A1v1)) → EvP X (d + 6) gvm_1 9 [some (.ref 260), some (.int (nI 0))] [] (G, (mI A1v1, j), cc) P))))) : EvP X (d + 6) gvm_1 0 (gv_enter [.ref 260] 2) [] (G, (mI A, j), cc) P :=
  (pv_aload_n rfl rfl   (pv_getP rfl rfl (oX0_k hp260) (oX0_0 hp260)   (match (c_step (t := t) (E := E) (i := i) (A := A) (X := X) (d := d + 3) (G := G) (j := j) (cc := cc) (oX0_0c hp260) H.1 H.2.1 H.2.2.1 ) with | ⟨A1v1, e1x4, h1⟩ => pv_virt rfl rfl rfl rfl rfl (oX7_k (oX0_0c hp260)) rfl rfl rfl e1x4 (pn_iconst rfl rfl   (pv_istore_n rfl rfl   (H.2.2.2 A1v1 h1))))))
theorem w1_9 {X : gv_X} {d : Nat} {G : gv_Sh} {A : Nat → Nat → Nat} {j : Nat → Nat → Int64} {cc : gv_Rs} {P : gv_O × gv_S → Prop} {l1 : Nat} {t : Nat → Nat} {E : Nat} {i : Nat} {R : Nat → Nat} (hp260 : oX0 G 260) (H : (l1 < 2147483648) ∧ (((14 ≤ l1) → EvP X (d + 6) gvm_1 50 [some (.ref 260), some (.int (nI l1))] [] (G, (mI A, j), cc) P) ∧ ((l1 < 14) → ((A 258 5) < 4294967296) ∧ ((((A 258 5) = 0) → EvP X (d + 6) gvm_1 50 [some (.ref 260), some (.int (nI l1))] [] (G, (mI A, j), cc) P) ∧ ((¬ (A 258 5) = 0) → (kI A t E i) ∧ ((okW R) ∧ ((rW A 17 R) ∧ ((∀ A1v1 : Nat → Nat → Nat, ∀ b1v1 : Bool, ((bkP A A1v1 t E b1v1 (blS t E R (ltE t E (skB t E i)) (skB t E i)))) → ((b1v1 = false) → P (.inl (some (.int (nI 0))), (G, (mI A1v1, j), cc))) ∧ ((b1v1 = true) → EvP X (d + 6) gvm_1 32 [some (.ref 260), some (.int (nI l1))] [] (G, (mI A1v1, j), cc) P)))))))))) : EvP X (d + 6) gvm_1 9 [some (.ref 260), some (.int (nI l1))] [] (G, (mI A, j), cc) P :=
  (pv_iload_n rfl rfl   (pn_bipush rfl rfl   (pn_ic_ge rfl H.1 (by decide) (fun c1 => (H.2.1 c1)) (fun c1 => (pv_aload_n rfl rfl   (pv_getP rfl rfl (oX0_k hp260) (oX0_0 hp260)   (pn_getI rfl rfl (oX7_k (oX0_0c hp260)) rfl   (pn_if_eq rfl (H.2.2 c1).1 (fun c2 => ((H.2.2 c1).2.1 c2)) (fun c2 => (pv_aload_n rfl rfl   (match (c_readLine (t := t) (E := E) (i := i) (R := R) (A := A) (X := X) (d := d + 0) (G := G) (j := j) (cc := cc) hp260 ((H.2.2 c1).2.2 c2).1 ((H.2.2 c1).2.2 c2).2.1 ((H.2.2 c1).2.2 c2).2.2.1 ) with | ⟨A1v1, b1v1, e1x26, h3⟩ => pv_virt rfl rfl rfl rfl rfl (oX0_k hp260) rfl rfl rfl e1x26 (pv_if_eq_zo rfl  (fun c4 => (pn_iconst rfl rfl   (pv_iretz rfl rfl (Or.inl rfl) ((((H.2.2 c1).2.2 c2).2.2.2 A1v1 b1v1 h3).1 c4)))) (fun c4 => ((((H.2.2 c1).2.2 c2).2.2.2 A1v1 b1v1 h3).2 c4))))))))))))))
theorem w1_32 {X : gv_X} {d : Nat} {G : gv_Sh} {A : Nat → Nat → Nat} {j : Nat → Nat → Int64} {cc : gv_Rs} {P : gv_O × gv_S → Prop} {l1 : Nat} {t : Nat → Nat} {E : Nat} {i : Nat} (hp260 : oX0 G 260) (H : (kI A t E i) ∧ ((∀ A1v1 : Nat → Nat → Nat, ((rdP A A1v1 t E (elB t E i) (elE t E i) (elX t E i)) ∧ (∀ q, q ≠ 258 → A1v1 q = A q)) → (((elB t E i) = true) → EvP X (d + 6) gvm_1 9 [some (.ref 260), some (.int (nI (l1 + 1)))] [] (G, (mI A1v1, j), cc) P) ∧ (((elB t E i) = false) → P (.inl (some (.int (nI 0))), (G, (mI A1v1, j), cc)))))) : EvP X (d + 6) gvm_1 32 [some (.ref 260), some (.int (nI l1))] [] (G, (mI A, j), cc) P :=
  (pv_aload_n rfl rfl   (pv_getP rfl rfl (oX0_k hp260) (oX0_0 hp260)   (match (c_endLine (t := t) (E := E) (i := i) (A := A) (X := X) (d := d + 2) (G := G) (j := j) (cc := cc) (oX0_0c hp260) H.1 ) with | ⟨A1v1, e1x36, h1⟩ => pv_virt rfl rfl rfl rfl rfl (oX7_k (oX0_0c hp260)) rfl rfl rfl e1x36 (pv_if_ne_zo rfl  (fun c2 => (pn_iinc rfl rfl rfl rfl   (pv_goto rfl ((H.2 A1v1 h1).1 c2)))) (fun c2 => (pn_iconst rfl rfl   (pv_iretz rfl rfl (Or.inl rfl) ((H.2 A1v1 h1).2 c2))))))))
theorem w1_50 {X : gv_X} {d : Nat} {G : gv_Sh} {A : Nat → Nat → Nat} {j : Nat → Nat → Int64} {cc : gv_Rs} {P : gv_O × gv_S → Prop} {l1 : Nat} (hp260 : oX0 G 260) (H : ((A 258 5) < 4294967296) ∧ ((((A 258 5) = 0) → P (.inl (some (.int (nI 1))), (G, (mI A, j), cc))) ∧ ((¬ (A 258 5) = 0) → (∀ A2 : Nat → Nat → Nat, A2 = (gu A 258 3 (A 258 4)) → ((false = false) → P (.inl (some (.int (nI 0))), (G, (mI A2, j), cc))) ∧ ((false = true) → P (.inl (some (.int (nI 1))), (G, (mI A2, j), cc))))))) : EvP X (d + 6) gvm_1 50 [some (.ref 260), some (.int (nI l1))] [] (G, (mI A, j), cc) P :=
  (pv_aload_n rfl rfl   (pv_getP rfl rfl (oX0_k hp260) (oX0_0 hp260)   (pn_getI rfl rfl (oX7_k (oX0_0c hp260)) rfl   (pn_if_eq rfl H.1 (fun c1 => (pn_iconst rfl rfl   (pv_goto rfl (pv_iretz rfl rfl (Or.inr rfl) (H.2.1 c1))))) (fun c1 => (pv_aload_n rfl rfl   (pv_getP rfl rfl (oX0_k hp260) (oX0_0 hp260)   (match (⟨(gu A 258 3 (A 258 4)), rfl⟩ : ∃ Z : Nat → Nat → Nat, Z = (gu A 258 3 (A 258 4))) with | ⟨A2, q2⟩ => pv_virt rfl rfl rfl rfl rfl (oX7_k (oX0_0c hp260)) rfl rfl rfl (ev_eqM q2 (c_refuse (A := A) (oX0_0c hp260) )) (pv_if_eq_zo rfl  (fun c3 => (pn_iconst rfl rfl   (pv_iretz rfl rfl (Or.inl rfl) (((H.2.2 c1) A2 q2).1 c3)))) (fun c3 => (pn_iconst rfl rfl   (pv_goto rfl (pv_iretz rfl rfl (Or.inr rfl) (((H.2.2 c1) A2 q2).2 c3))))))))))))))
theorem c_readBench_p {X : gv_X} {d : Nat} {G : gv_Sh} {A : Nat → Nat → Nat} {j : Nat → Nat → Int64} {cc : gv_Rs} {P : gv_O × gv_S → Prop} {t : Nat → Nat} {E : Nat} {R : Nat → Nat} (hp260 : oX0 G 260) (p0 : tI A t E) (p1 : A 258 2 = 0) (p2 : okW R) (p3 : rW A 17 R) (hP : ∀ A1 : Nat → Nat → Nat, (rbP A A1 t E R) → P (.inl (some (.int (zo (!decide ((raB t E R).1 = 4294967295))))), (G, (mI A1, j), cc))) : EvP X (d + 6) gvm_1 0 (gv_enter [.ref 260] 2) [] (G, (mI A, j), cc) P := by
  obtain ⟨r, hr⟩ : ∃ r, r = raB t E R := ⟨_, rfl⟩
  have OK : ∀ B, r.1 ≠ 4294967295 → rW B 17 r.2.1 → B 258 3 = A 258 3 → frD A B → P (.inl (some (.int (nI 1))), (G, (mI B, j), cc)) := fun B h1 h2 h3 h4 => by
    rw [hr] at h1 h2
    exact qz1 (hP B ⟨fun _ => ⟨h2, h3⟩, fun z => absurd z h1, h4⟩) (by rw [decide_eq_false h1]; rfl)
  have NO : ∀ B, r.1 = 4294967295 → B 258 3 = r.2.2.2 → frD A B → P (.inl (some (.int (nI 0))), (G, (mI B, j), cc)) := fun B h1 h2 h4 => by
    rw [hr] at h1 h2
    exact qz0 (hP B ⟨fun z => absurd h1 z, fun _ => h2, h4⟩) (by rw [decide_eq_true h1]; rfl)
  have X50 : ∀ B n S i, kI B t E i → n ≤ 14 → okW S → rW B 17 S → B 258 3 = A 258 3 → frD A B → (tkK t E i = 0 → r.1 ≠ 4294967295 ∧ r.2.1 = S) → (tkK t E i ≠ 0 → n = 14 ∧ r = baS t E 1 S 14 i) → EvP X (d + 6) gvm_1 50 [some (.ref 260), some (.int (nI n))] [] (G, (mI B, j), cc) P := fun B n S i k hn oS w h3 fr h4 h5 => by
    have kl := tkK_le (t := t) (E := E) (i := i)
    have k5 := k.2.2.2.2.1
    refine w1_50 hp260 ⟨by omega, fun c => ?_, fun c C hC => ⟨fun _ => ?_, fun z => by cases z⟩⟩
    · obtain ⟨h6, h7⟩ := h4 (by omega)
      exact OK B h6 (by rw [h7]; exact w) h3 fr
    · obtain ⟨u1, u2, u3⟩ := ref_k k hC
      obtain ⟨_, h6⟩ := h5 (by omega)
      have e : r = (4294967295, S, ltE t E (skB t E i), skB t E i) := h6
      exact NO C (by rw [e]) (by rw [e]; exact u2) (fun q a b => (u3 q b).trans (fr q a b))
  have L : ∀ f n S i B, n + f = 14 → kI B t E i → okW S → rW B 17 S → B 258 3 = A 258 3 → frD A B → (tkK t E i = 0 → r.1 ≠ 4294967295 ∧ r.2.1 = S) → (tkK t E i ≠ 0 → r = baS t E (f + 1) S n i) → EvP X (d + 6) gvm_1 9 [some (.ref 260), some (.int (nI n))] [] (G, (mI B, j), cc) P := by
    intro f
    induction f with
    | zero =>
      intro n S i B e1 k oS w h3 fr h4 h5
      obtain rfl : n = 14 := by omega
      have kl := tkK_le (t := t) (E := E) (i := i)
      exact w1_9 (t := t) (E := E) (i := i) (R := R) hp260 ⟨by omega, fun c => X50 B 14 S i k (by omega) oS w h3 fr h4 (fun z => ⟨rfl, h5 z⟩), fun c => absurd c (by omega)⟩
    | succ f ih =>
      intro n S i B e1 k oS w h3 fr h4 h5
      have kl := tkK_le (t := t) (E := E) (i := i)
      have k5 := k.2.2.2.2.1
      refine w1_9 (R := S) hp260 ⟨by omega, fun c => absurd c (by omega), fun c => ⟨by omega, fun c1 => X50 B n S i k (by omega) oS w h3 fr h4 (fun z => absurd (k5.symm.trans c1) z), fun c1 => ⟨k, oS, w, fun C b hC => ?_⟩⟩⟩
      have h6 := h5 (by omega)
      obtain ⟨q, hq⟩ : ∃ q, q = bnS t E S n i := ⟨_, rfl⟩
      have bq : blS t E S (ltE t E (skB t E i)) (skB t E i) = q := by rw [hq]; unfold bnS; rw [if_pos c]
      have st : baS t E (f + 1 + 1) S n i = if q.1 = true then (if skB t E q.2.2.1 = E then (n + 1, q.2.1, skB t E q.2.2.1, skB t E q.2.2.1) else if t (skB t E q.2.2.1) = 59 then baS t E (f + 1) q.2.1 (n + 1) (skB t E q.2.2.1 + 1) else (4294967295, q.2.1, skB t E q.2.2.1, skB t E q.2.2.1)) else (4294967295, q.2) := by rw [hq]; rfl
      rw [st] at h6
      rw [bq] at hC
      obtain ⟨g1, g2, g3⟩ := hC
      have frC := frD_tr fr g3
      refine ⟨fun c2 => ?_, fun c2 => ?_⟩
      · obtain ⟨u1, u2⟩ := g2 c2
        rcases u2 with ⟨v1, v2⟩ | ⟨v1, v2, v3⟩
        · rw [if_neg (by rw [v1]; decide)] at h6
          exact NO C (by rw [h6]) (by rw [h6]; exact v2) frC
        · rw [if_pos v1, if_neg (fun z => v2 (Or.inl z)), if_neg (fun z => v2 (Or.inr z))] at h6
          exact NO C (by rw [h6]) (by rw [h6]; exact v3) frC
      · obtain ⟨x, kx, x3, xx⟩ := g1 c2
        have sx := skB_b (t := t) kx.2.1
        have bx := tkE_b (t := t) kx.2.1
        refine w1_32 (i := x) hp260 ⟨kx, fun D hD => ⟨fun c3 => ?_, fun c3 => ?_⟩⟩
        · obtain ⟨kD, d3⟩ := hD.1.1 c3
          have frE : frD A D := fun q a b => (hD.2 q b).trans (frC q a b)
          rcases xx with ⟨v1, v2, v3⟩ | ⟨v1, v2, v3⟩
          · have ok := bnS_ok oS k.2.1 (by rw [← hq]; exact v1)
            rw [← hq] at ok
            have wD : rW D 17 q.2.1 := rW_fr v3 (fun z a b => hD.2 z (by omega))
            rw [if_pos v1] at h6
            unfold elB at c3
            unfold elE at kD
            by_cases z : tkK t E x = 0
            · rw [if_pos z] at kD
              rw [if_pos (by rw [← v2]; exact tkK_0.mp z)] at h6
              exact ih (n + 1) q.2.1 x D (by omega) kD ok.1 wD (d3.trans (x3.trans h3)) frE (fun _ => by rw [h6]; exact ⟨by show n + 1 ≠ 4294967295; omega, rfl⟩) (fun y => absurd z y)
            · rw [if_neg z] at c3 kD
              by_cases y : sgB t E x 59 = true
              · rw [if_pos y] at c3
                have ys := of_decide_eq_true y
                have e2 := (tkK_s kx.2.1 (by omega) y).2
                have nz : tkK t E (tkE t E x) ≠ 0 := fun u => by rw [decide_eq_true u] at c3; cases c3
                rw [if_neg (by rw [← v2]; omega), if_pos (by rw [← v2]; exact ys.2), ← v2, ← e2] at h6
                exact ih (n + 1) q.2.1 (tkE t E x) D (by omega) kD ok.1 wD (d3.trans (x3.trans h3)) frE (fun u => absurd u nz) (fun _ => h6)
              · rw [if_neg y] at c3; cases c3
          · unfold elB at c3
            rw [if_neg (fun z => v2 (Or.inl (tkK_0.mp z)))] at c3
            by_cases y : sgB t E x 59 = true
            · exact absurd (Or.inr (of_decide_eq_true y).2) v2
            · rw [if_neg y] at c3; cases c3
        · obtain ⟨tD, d3⟩ := hD.1.2 c3
          have frE : frD A D := fun q a b => (hD.2 q b).trans (frC q a b)
          rcases xx with ⟨v1, v2, v3⟩ | ⟨v1, v2, v3⟩
          · rw [if_pos v1] at h6
            unfold elB at c3
            unfold elX at d3
            by_cases z : tkK t E x = 0
            · rw [if_pos z] at c3; cases c3
            · rw [if_neg z] at c3
              have nE : skB t E q.2.2.1 ≠ E := by rw [← v2]; exact fun u => z (tkK_0.mpr u)
              rw [if_neg nE] at h6
              by_cases y : sgB t E x 59 = true
              · rw [if_pos y] at c3 d3
                have ys := of_decide_eq_true y
                have e2 := (tkK_s kx.2.1 (by omega) y).2
                rw [if_pos (by rw [← v2]; exact ys.2), ← v2, ← e2] at h6
                have z0 : tkK t E (tkE t E x) = 0 := by
                  by_cases u : tkK t E (tkE t E x) = 0
                  · exact u
                  · rw [decide_eq_false u] at c3; cases c3
                have sE := tkK_0.mp z0
                have b0 : bnS t E q.2.1 (n + 1) (tkE t E x) = (false, q.2.1, skB t E (tkE t E x), skB t E (tkE t E x)) := by
                  have le : ltE t E (skB t E (tkE t E x)) = skB t E (tkE t E x) := skp_e (by omega) (by omega)
                  unfold bnS
                  rw [le, blS_no]
                  split <;> rfl
                have h7 : r = (4294967295, q.2.1, skB t E (tkE t E x), skB t E (tkE t E x)) := by
                  rw [h6]
                  show (if (bnS t E q.2.1 (n + 1) (tkE t E x)).1 = true then _ else (4294967295, (bnS t E q.2.1 (n + 1) (tkE t E x)).2)) = _
                  rw [b0]; rfl
                exact NO D (by rw [h7]) (by rw [h7]; exact d3) frE
              · rw [if_neg y] at d3
                have n59 : t (skB t E q.2.2.1) ≠ 59 := by
                  rw [← v2]
                  intro u
                  exact y (decide_eq_true ⟨by rw [← v2] at nE; omega, u⟩)
                rw [if_neg n59] at h6
                exact NO D (by rw [h6]) (by rw [h6]; show D 258 3 = skB t E q.2.2.1; rw [d3, v2]) frE
          · rw [if_neg (by rw [v1]; decide)] at h6
            unfold elX at d3
            by_cases y : sgB t E x 59 = true
            · exact absurd (Or.inr (of_decide_eq_true y).2) v2
            · rw [if_neg y] at d3
              exact NO D (by rw [h6]) (by rw [h6]; show D 258 3 = q.2.2.2; rw [d3, v3]) frE
  have s0 := skB_b (t := t) (Nat.zero_le E)
  refine w1 (i := 0) hp260 ⟨p0, p1, Nat.zero_le _, fun B h => L 14 0 R (skB t E 0) B rfl (kI_sk h.1 (skB_id (Nat.zero_le _)) s0.2) p2 (rW_fr p3 (fun q a b => h.2.1 q (by omega))) (frR_3 h.2) (fun q a b => h.2.1 q b) (fun z => ?_) (fun z => ?_)⟩
  · have e : skB t E 0 = E := by have := tkK_0.mp z; rw [skB_id (Nat.zero_le _)] at this; exact this
    rw [hr]; unfold raB; rw [if_pos e]
    exact ⟨(by show (0 : Nat) ≠ 4294967295; decide), rfl⟩
  · rw [hr]; unfold raB
    rw [if_neg (fun e => z (tkK_0.mpr (by rw [skB_id (Nat.zero_le _)]; exact e)))]
theorem c_readBench {X : gv_X} {d : Nat} {G : gv_Sh} {A : Nat → Nat → Nat} {j : Nat → Nat → Int64} {cc : gv_Rs} {t : Nat → Nat} {E : Nat} {R : Nat → Nat} (hp260 : oX0 G 260) (p0 : tI A t E) (p1 : A 258 2 = 0) (p2 : okW R) (p3 : rW A 17 R) : ∃ A1 : Nat → Nat → Nat, Ev X (d + 6) gvm_1 0 (gv_enter [.ref 260] 2) [] (G, (mI A, j), cc) (.inl (some (.int (zo (!decide ((raB t E R).1 = 4294967295))))), (G, (mI A1, j), cc)) ∧ (rbP A A1 t E R) := by
  obtain ⟨_, h, A1, rfl, hp⟩ := c_readBench_p (X := X) (d := d) (G := G) (A := A) (j := j) (cc := cc) (t := t) (E := E) (R := R) (P := fun r => ∃ A1 : Nat → Nat → Nat, r = (.inl (some (.int (zo (!decide ((raB t E R).1 = 4294967295))))), (G, (mI A1, j), cc)) ∧ (rbP A A1 t E R)) hp260 p0 p1 p2 p3 (fun A1 h => ⟨A1, rfl, h⟩)
  exact ⟨A1, h, hp⟩
theorem w109 {X : gv_X} {d : Nat} {G : gv_Sh} {A : Nat → Nat → Nat} {j : Nat → Nat → Int64} {cc : gv_Rs} {P : gv_O × gv_S → Prop} {t : Nat → Nat} {E : Nat} {R : Nat → Nat} (hp0 : oX11 G 0) (H : (A 0 1 ≤ 400) ∧ ((∀ A1v1 : Nat → Nat → Nat, ((A1v1 0 1 = 0) ∧ (∀ k, k ≠ 1 → A1v1 0 k = A 0 k) ∧ (A1v1 258 1 = A 0 1) ∧ (A1v1 258 2 = 0) ∧ (A1v1 258 3 = 4294967295) ∧ (∀ i, i < A 0 1 → A1v1 259 i = A 1 i) ∧ (∀ q, q ≠ 0 → q ≠ 258 → q ≠ 259 → A1v1 q = A q)) → (okW R) ∧ ((rW A1v1 2 R) ∧ ((17 + 15 ≤ 2 ∨ 2 + 15 ≤ 17) ∧ ((∀ A1v2 : Nat → Nat → Nat, ((rW A1v2 17 R) ∧ (∀ q, (q < 17 ∨ 17 + 14 < q) → A1v2 q = A1v1 q)) → (tI A1v2 t E) ∧ ((A1v2 258 2 = 0) ∧ ((okW R) ∧ ((rW A1v2 17 R) ∧ ((∀ A1v3 : Nat → Nat → Nat, ((rbP A1v2 A1v3 t E R)) → (((!decide ((raB t E R).1 = 4294967295)) = true) → ((A1v3 2 11) < 2147483648) ∧ ((((A1v3 2 11) < 12) → EvP X (d + 7) gvm_109 70 [some (.ref 0), some (.int (zo (!decide ((raB t E R).1 = 4294967295))))] [] (G, (mI (gu A1v3 0 2 (A1v3 258 3)), j), cc) P) ∧ ((12 ≤ (A1v3 2 11)) → P (.inr 2, gv_ex (G, (mI (gu A1v3 0 2 (A1v3 258 3)), j), cc))))) ∧ (((!decide ((raB t E R).1 = 4294967295)) = false) → P (.inr 0, gv_ex (G, (mI (gu A1v3 0 2 (A1v3 258 3)), j), cc))))))))))))))) : EvP X (d + 7) gvm_109 0 (gv_enter [.ref 0] 2) [] (G, (mI A, j), cc) P :=
  (pv_aload_n rfl rfl   (match (c_useTape (A := A) (X := X) (d := d + 4) (G := G) (j := j) (cc := cc) hp0 H.1 ) with | ⟨A1v1, e3x1, h1⟩ => pv_virt rfl rfl rfl rfl rfl (oX11_k hp0) rfl rfl rfl e3x1 (pv_aload_n rfl rfl   (pv_getP rfl rfl (oX11_k hp0) (oX11_4 hp0)   (pv_aload_n rfl rfl   (pv_getP rfl rfl (oX11_k hp0) (oX11_3 hp0)   (match (c_copyWorld (R := R) (A := A1v1) (X := X) (d := d + 5) (G := G) (j := j) (cc := cc) (oX11_4c hp0) (oX11_3c hp0) (H.2 A1v1 h1).1 (H.2 A1v1 h1).2.1 (H.2 A1v1 h1).2.2.1 ) with | ⟨A1v2, e3x12, h2⟩ => pv_virt rfl rfl rfl rfl rfl (oX10_k (oX11_4c hp0)) rfl rfl rfl e3x12 (pv_aload_n rfl rfl   (pv_getP rfl rfl (oX11_k hp0) (oX11_12 hp0)   (match (c_readBench (t := t) (E := E) (R := R) (A := A1v2) (X := X) (d := d + 0) (G := G) (j := j) (cc := cc) (oX11_12c hp0) ((H.2 A1v1 h1).2.2.2 A1v2 h2).1 ((H.2 A1v1 h1).2.2.2 A1v2 h2).2.1 ((H.2 A1v1 h1).2.2.2 A1v2 h2).2.2.1 ((H.2 A1v1 h1).2.2.2 A1v2 h2).2.2.2.1 ) with | ⟨A1v3, e3x19, h3⟩ => pv_virt rfl rfl rfl rfl rfl (oX0_k (oX11_12c hp0)) rfl rfl rfl e3x19 (pv_istore_n rfl rfl   (pv_aload_n rfl rfl   (pv_aload_n rfl rfl   (pv_getP rfl rfl (oX11_k hp0) (oX11_11 hp0)   (pn_getI rfl rfl (oX7_k (oX11_11c hp0)) rfl   (pn_putI rfl rfl (oX11_k hp0)   (pv_iload_n rfl rfl   (pv_if_ne_zo rfl  (fun c4 => (pv_aload_n rfl rfl   (pv_getP rfl rfl (oX11_k hp0) (oX11_3 hp0)   (pn_getI rfl rfl (oX10_k (oX11_3c hp0)) (gu_q (by omega) rfl)   (pn_bipush rfl rfl   (pn_ic_lt rfl ((((H.2 A1v1 h1).2.2.2 A1v2 h2).2.2.2.2 A1v3 h3).1 c4).1 (by decide) (fun c5 => (((((H.2 A1v1 h1).2.2.2 A1v2 h2).2.2.2.2 A1v3 h3).1 c4).2.1 c5)) (fun c5 => (pv_throw rfl rfl rfl (((((H.2 A1v1 h1).2.2.2 A1v2 h2).2.2.2.2 A1v3 h3).1 c4).2.2 c5))))))))) (fun c4 => (pv_throw rfl rfl rfl ((((H.2 A1v1 h1).2.2.2 A1v2 h2).2.2.2.2 A1v3 h3).2 c4)))))))))))))))))))))
theorem w109_70 {X : gv_X} {d : Nat} {G : gv_Sh} {A : Nat → Nat → Nat} {j : Nat → Nat → Int64} {cc : gv_Rs} {P : gv_O × gv_S → Prop} {l1 : Bool} {U : Nat → Nat} {W : Nat → Nat} (hp0 : oX11 G 0) (H : (okW U) ∧ ((rW A 17 U) ∧ ((2 + 15 ≤ 17 ∨ 17 + 15 ≤ 2) ∧ ((∀ A1v1 : Nat → Nat → Nat, ((rW A1v1 2 U) ∧ (∀ q, (q < 2 ∨ 2 + 14 < q) → A1v1 q = A q)) → (okW W) ∧ ((rW (gu A1v1 2 11 ((A1v1 2 11) + 1)) 2 W) ∧ ((∀ A1v2 : Nat → Nat → Nat, ((rW A1v2 2 (boR W)) ∧ (∀ q, q ≠ 2 + 9 → q ≠ 2 + 10 → q ≠ 2 + 11 → q ≠ 2 + 12 → A1v2 q = (gu A1v1 2 11 ((A1v1 2 11) + 1)) q)) → EvP X (d + 7) gvm_109 101 [some (.ref 0), some (.int (zo l1))] [] (G, (mI A1v2, j), cc) P)))))))) : EvP X (d + 7) gvm_109 70 [some (.ref 0), some (.int (zo l1))] [] (G, (mI A, j), cc) P :=
  (pv_aload_n rfl rfl   (pv_getP rfl rfl (oX11_k hp0) (oX11_3 hp0)   (pv_aload_n rfl rfl   (pv_getP rfl rfl (oX11_k hp0) (oX11_4 hp0)   (match (c_copyWorld (R := U) (A := A) (X := X) (d := d + 5) (G := G) (j := j) (cc := cc) (oX11_3c hp0) (oX11_4c hp0) H.1 H.2.1 H.2.2.1 ) with | ⟨A1v1, e2x78, h1⟩ => pv_virt rfl rfl rfl rfl rfl (oX10_k (oX11_3c hp0)) rfl rfl rfl e2x78 (pv_aload_n rfl rfl   (pv_getP rfl rfl (oX11_k hp0) (oX11_3 hp0)   (pv_dup rfl rfl   (pn_getI rfl rfl (oX10_k (oX11_3c hp0)) rfl   (pn_iconst rfl rfl   (pn_iadd rfl   (pn_putI rfl rfl (oX10_k (oX11_3c hp0))   (pv_aload_n rfl rfl   (pv_getP rfl rfl (oX11_k hp0) (oX11_3 hp0)   (match (c_startWorld (R := W) (A := (gu A1v1 2 11 ((A1v1 2 11) + 1))) (X := X) (d := d + 5) (G := G) (j := j) (cc := cc) (oX11_3c hp0) (H.2.2.2 A1v1 h1).1 (H.2.2.2 A1v1 h1).2.1 ) with | ⟨A1v2, e2x98, h2⟩ => pv_virt rfl rfl rfl rfl rfl (oX10_k (oX11_3c hp0)) rfl rfl rfl e2x98 ((H.2.2.2 A1v1 h1).2.2 A1v2 h2))))))))))))))))
theorem w109_101 {X : gv_X} {d : Nat} {G : gv_Sh} {A : Nat → Nat → Nat} {j : Nat → Nat → Int64} {cc : gv_Rs} {P : gv_O × gv_S → Prop} {l1 : Bool} (hp0 : oX11 G 0) (H : (∀ A1v1 : Nat → Nat → Nat, ((∀ k, k < 264 → A1v1 61 k = 4294967294) ∧ (A1v1 76 1 = 0) ∧ (A1v1 76 2 = A 76 2) ∧ (∀ q, q ≠ 61 → q ≠ 76 → A1v1 q = A q)) → P (.inl (some (.int (nI (A1v1 2 11)))), (G, (mI A1v1, j), cc)))) : EvP X (d + 7) gvm_109 101 [some (.ref 0), some (.int (zo l1))] [] (G, (mI A, j), cc) P :=
  (pv_aload_n rfl rfl   (match (c_forgetActs (A := A) (X := X) (d := d + 4) (G := G) (j := j) (cc := cc) hp0 ) with | ⟨A1v1, e1x102, h1⟩ => pv_virt rfl rfl rfl rfl rfl (oX11_k hp0) rfl rfl rfl e1x102 (pv_aload_n rfl rfl   (pv_getP rfl rfl (oX11_k hp0) (oX11_3 hp0)   (pn_getI rfl rfl (oX10_k (oX11_3c hp0)) rfl   (pv_ireti rfl rfl (H A1v1 h1)))))))
theorem c_bench_p {X : gv_X} {d : Nat} {G : gv_Sh} {A : Nat → Nat → Nat} {j : Nat → Nat → Int64} {cc : gv_Rs} {P : gv_O × gv_S → Prop} {t : Nat → Nat} {E : Nat} {R : Nat → Nat} (hp0 : oX11 G 0) (p0 : cK A R) (p1 : A 0 1 ≤ 400) (p2 : ∀ i, i < A 0 1 → A 1 i < 256 ∧ t i = sx8 (A 1 i)) (hP : ∀ A1 : Nat → Nat → Nat, (beP A A1 t (A 0 1) R) → P (oc (fun c => if c = 1 then 0 else 2) (spBe t (A 0 1) R).1 (spBe t (A 0 1) R).2 (G, (mI A1, j), cc))) : EvP X (d + 7) gvm_109 0 (gv_enter [.ref 0] 2) [] (G, (mI A, j), cc) P := by
  have ok : ∀ B x, beP A B t (A 0 1) R → spBe t (A 0 1) R = (0, x) → P (.inl (some (.int (nI x))), (G, (mI B, j), cc)) := fun B x h1 h3 => by
    have := hP B h1
    rw [h3] at this
    exact this
  have no1 : ∀ B, beP A B t (A 0 1) R → spBe t (A 0 1) R = (1, 0) → P (.inr 0, gv_ex (G, (mI B, j), cc)) := fun B h1 h3 => by
    have := hP B h1
    rw [h3] at this
    exact this
  have no2 : ∀ B, beP A B t (A 0 1) R → spBe t (A 0 1) R = (2, 0) → P (.inr 2, gv_ex (G, (mI B, j), cc)) := fun B h1 h3 => by
    have := hP B h1
    rw [h3] at this
    exact this
  have n := okW_n p0.1
  obtain ⟨r, hr⟩ : ∃ r, r = raB t (A 0 1) R := ⟨_, rfl⟩
  refine w109 (t := t) (E := A 0 1) (R := R) hp0 ⟨p1, fun B1 h1 => ⟨p0.1, rW_fr p0.2.1 (fun q a b => h1.2.2.2.2.2.2 q (by omega) (by omega) (by omega)), by omega, fun B2 h2 => ?_⟩⟩
  have b2 : ∀ q, q ≠ 0 → ¬ (17 ≤ q ∧ q ≤ 31) → q ≠ 258 → q ≠ 259 → B2 q = A q := fun q a b c d => (h2.2 q (by omega)).trans (h1.2.2.2.2.2.2 q a c d)
  have b258 : B2 258 = B1 258 := h2.2 258 (by omega)
  have t2 : tI B2 t (A 0 1) := ⟨by rw [b258]; exact h1.2.2.1, p1, fun i hi => by rw [h2.2 259 (by omega), h1.2.2.2.2.2.1 i hi]; exact p2 i hi⟩
  refine ⟨t2, by rw [b258]; exact h1.2.2.2.1, p0.1, h2.1, fun B3 h3 => ?_⟩
  have f3 := h3.2.2
  have w258 : B2 258 3 = 4294967295 := by rw [b258]; exact h1.2.2.2.2.1
  -- behind the reading
  have g0 : gu B3 0 2 (B3 258 3) 0 2 = B3 258 3 := gu_hit _ _ _ _
  have gq : ∀ q, q ≠ 0 → gu B3 0 2 (B3 258 3) q = B3 q := fun q hq => gu_row hq
  have f4 : ∀ q, q ≠ 0 → ¬ (17 ≤ q ∧ q ≤ 31) → q ≠ 258 → q ≠ 259 → gu B3 0 2 (B3 258 3) q = A q := fun q a b c d => (gq q a).trans ((f3 q b c).trans (b2 q a b c d))
  have f01 : ∀ k, k ≠ 2 → gu B3 0 2 (B3 258 3) 0 k = B1 0 k := fun k hk => by rw [gu_k hk rfl, f3 0 (by omega) (by omega), h2.2 0 (by omega)]
  have BAD : ∀ c, (spBe t (A 0 1) R).1 = c → c ≠ 0 → B3 258 3 = (if (raB t (A 0 1) R).1 = 4294967295 then (raB t (A 0 1) R).2.2.2 else 4294967295) → beP A (gu B3 0 2 (B3 258 3)) t (A 0 1) R := fun c e hc h => by
    refine ⟨fun z => absurd (e.symm.trans z) hc, fun _ => ⟨⟨p0.1, rW_fr p0.2.1 (fun q a b => f4 q (by omega) (by omega) (by omega) (by omega)), knI_of p0.2.2.1 (f4 55 (by omega) (by omega) (by omega) (by omega)), p0.2.2.2.1, rRu_of p0.2.2.2.2.1 (fun q a b => f4 q (by omega) (by omega) (by omega) (by omega)), smI_of p0.2.2.2.2.2 (f4 61 (by omega) (by omega) (by omega) (by omega))⟩, f4 76 (by omega) (by omega) (by omega) (by omega)⟩, ?_, ?_, fun k a b => ?_, fun q a b c d e f => f4 q a (by omega) e f⟩
    · rw [f01 1 (by decide)]; exact h1.1
    · rw [g0]; exact h
    · rw [f01 k b]; exact h1.2.1 k a
  have x11 : B3 2 11 = R 1 := by rw [f3 2 (by omega) (by omega), b2 2 (by omega) (by omega) (by omega) (by omega)]; exact p0.2.1.2.2.2.1.2.2.2.2.2.2.2
  refine ⟨fun c1 => ?_, fun c1 => ?_⟩
  · have nr := nd_t c1
    have kp := raB_k p0.1 nr
    obtain ⟨u1, u2⟩ := h3.1 nr
    have ok' : okW (raB t (A 0 1) R).2.1 := by
      rcases raB_ok (t := t) (L := A 0 1) p0.1 with z | z
      · exact absurd z nr
      · exact z.2
    have x3 : B3 258 3 = (if (raB t (A 0 1) R).1 = 4294967295 then (raB t (A 0 1) R).2.2.2 else 4294967295) := by rw [if_neg nr, u2]; exact w258
    refine ⟨by omega, fun c2 => ?_, fun c2 => ?_⟩
    · have sp0 : spBe t (A 0 1) R = (0, R 1 + 1) := by unfold spBe; rw [if_neg nr, if_neg (by omega)]
      have k1 : (raB t (A 0 1) R).2.1 1 = R 1 := kp.1 1 (by omega)
      obtain ⟨U, hU⟩ : ∃ U, U = (raB t (A 0 1) R).2.1 := ⟨_, rfl⟩
      have oW : okW (seR U 1 (U 1 + 1)) := by rw [hU]; exact okW_tx ok' (by omega)
      refine w109_70 (U := U) (W := seR U 1 (U 1 + 1)) hp0 ⟨by rw [hU]; exact ok', by rw [hU]; exact rW_fr u1 (fun q a b => gq q (by omega)), by omega, fun B4 h4 => ⟨oW, ?_, fun B5 h5 => ?_⟩⟩
      · refine rW_nw h4.1 (by rw [hU]; exact ok') (fun i hi => seR_ne (by omega)) (fun q a b => gu_row (by omega)) (gu_k (by decide) rfl) ?_
        obtain ⟨b1, b2, b3, b4, b5, b6, b7, b8⟩ := h4.1.2.2.2.1
        refine ⟨?_, ?_, ?_, ?_, ?_, ?_, ?_, ?_⟩
        · rw [gu_k (by decide) rfl, seR_ne (by decide)]; exact b1
        · rw [gu_k (by decide) rfl, seR_ne (by decide)]; exact b2
        · rw [gu_k (by decide) rfl, seR_ne (by decide)]; exact b3
        · rw [gu_k (by decide) rfl, seR_ne (by decide)]; exact b4
        · rw [gu_k (by decide) rfl, seR_ne (by decide)]; exact b5
        · rw [gu_k (by decide) rfl, seR_ne (by decide)]; exact b6
        · rw [gu_k (by decide) rfl, seR_ne (by decide)]; exact b7
        · rw [gu_hit, seR_at, b8]
      · refine w109_101 hp0 (fun B6 h6 => ?_)
        have f5 : ∀ q, ¬ (2 ≤ q ∧ q ≤ 16) → B5 q = gu B3 0 2 (B3 258 3) q := fun q a => by
          rw [h5.2 q (by omega) (by omega) (by omega) (by omega), gu_row (by omega)]; exact h4.2 q (by omega)
        have f6 : ∀ q, q ≠ 61 → q ≠ 76 → ¬ (2 ≤ q ∧ q ≤ 16) → B6 q = gu B3 0 2 (B3 258 3) q := fun q a b c => (h6.2.2.2 q a b).trans (f5 q c)
        have r6 : rW B6 2 (boR (seR U 1 (U 1 + 1))) := rW_fr h5.1 (fun q a b => h6.2.2.2 q (by omega) (by omega))
        have v6 : B6 2 11 = R 1 + 1 := by
          have := r6.2.2.2.1.2.2.2.2.2.2.2
          rw [boR_o (by omega), seR_at, hU, k1] at this
          exact this
        rw [v6]
        have kp2 : kpB R (seR U 1 (U 1 + 1)) ∨ True := Or.inr trivial
        have eW : ∀ i, i ≠ 1 → ¬ (102 ≤ i ∧ i < 128) → boR (seR U 1 (U 1 + 1)) i = U i := fun i a b => (eqG_bo _ i b).trans (seR_ne a)
        have kU : kpB R U := by rw [hU]; exact kp
        refine ok B6 _ ⟨fun _ => ⟨?_, h6.2.1, ?_⟩, fun z => absurd (by rw [sp0]) z, ?_, ?_, fun k a b => ?_, fun q a b c d e f => ?_⟩ sp0
        · rw [← hU]
          refine ⟨okW_bo oW, r6, ?_, okLw_of p0.2.2.2.1 ?_ (fun i hi => ?_), rRu_of (rRu_R p0.2.2.2.2.1 (fun i hi => ?_)) (fun q a b => ?_), smI_no h6.1⟩
          · have k0 : knI A (seR U 1 (U 1 + 1)) := knI_S (by rw [hU]; exact ok') (knI_B p0.1 p0.2.2.1 kU) (fun i hi => seR_ne (by omega))
            exact knI_of (knI_S oW k0 (eqS_bo _)) ((f6 55 (by omega) (by omega) (by omega)).trans (f4 55 (by omega) (by omega) (by omega) (by omega)))
          · rw [eW 2 (by omega) (by omega)]; exact kU.1 2 (by omega)
          · rw [eW i (by omega) (by omega)]; exact kU.1 i (by omega)
          · rw [eW i (by omega) (by omega)]; exact kU.1 i (by omega)
          · exact (f6 q (by omega) (by omega) (by omega)).trans (f4 q (by omega) (by omega) (by omega) (by omega))
        · rw [h6.2.2.1, f5 76 (by omega), f4 76 (by omega) (by omega) (by omega) (by omega)]
        · rw [f6 0 (by omega) (by omega) (by omega), f01 1 (by decide)]; exact h1.1
        · rw [f6 0 (by omega) (by omega) (by omega), g0]; exact x3
        · rw [f6 0 (by omega) (by omega) (by omega), f01 k b]; exact h1.2.1 k a
        · exact (f6 q c d (by omega)).trans (f4 q a (by omega) e f)
    · have sp2 : spBe t (A 0 1) R = (2, 0) := by unfold spBe; rw [if_neg nr, if_pos (by omega)]
      exact no2 _ (BAD 2 (by rw [sp2]) (by decide) x3) sp2
  · have nr := nd_f c1
    have sp1 : spBe t (A 0 1) R = (1, 0) := by unfold spBe; rw [if_pos nr]
    exact no1 _ (BAD 1 (by rw [sp1]) (by decide) (by rw [if_pos nr]; exact h3.2.1 nr)) sp1
