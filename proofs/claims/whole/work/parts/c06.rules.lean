/-! the class: Rules: what THE LAW comes to -/
def jnC (k a b : Nat) : Nat := if k = 20 then a + b else if k = 21 then (if a < b then 1 else 0) else if k = 22 then (if b < a then 1 else 0) else if k = 23 then a &&& b else a ||| b
/-- a code of the reference as the class has it -/
def cdN (c n : Nat) : Nat := if c ≤ 9 then c else if c = 10 then 1000 + n else if c = 14 then 25 else if c = 15 then 23 else if c = 16 then 24 else c + 9
theorem jnC_eq {c n a b : Nat} (h : ¬ c ≤ 10) (h4 : c ≠ 14) (h6 : c ≤ 16) (hb : c = 15 ∨ c = 16 → a ≤ 1 ∧ b ≤ 1) : jnC (cdN c n) a b = jn c a b := by
  rcases (by omega : c = 11 ∨ c = 12 ∨ c = 13 ∨ c = 15 ∨ c = 16) with rfl | rfl | rfl | rfl | rfl
  · rfl
  · rfl
  · rfl
  · obtain ⟨h1, h2⟩ := hb (by omega)
    rcases (by omega : a = 0 ∨ a = 1) with rfl | rfl <;> rcases (by omega : b = 0 ∨ b = 1) with rfl | rfl <;> rfl
  · obtain ⟨h1, h2⟩ := hb (by omega)
    rcases (by omega : a = 0 ∨ a = 1) with rfl | rfl <;> rcases (by omega : b = 0 ∨ b = 1) with rfl | rfl <;> rfl
/-- a line of the law as the class has it -/
def rLn (A : Nat → Nat → Nat) (q : Nat) (R : Nat → Nat) (n : Nat) : Prop := A (q + 1) n = R (369 + 4 * n) ∧ A (q + 2) n = R (369 + 4 * n + 1) ∧ A (q + 3) n = R (369 + 4 * n + 2) ∧ A (q + 4) n = R (369 + 4 * n + 3) ∧ ∀ i, R (369 + 4 * n + 2) ≤ i → i < R (369 + 4 * n + 3) → A (q + 5) i = cdN (R (417 + 2 * i)) (R (417 + 2 * i + 1))
def rRu (A : Nat → Nat → Nat) (q : Nat) (R : Nat → Nat) : Prop := A q 0 = R 2 ∧ (R 2 = 0 → A q 1 = 0) ∧ (R 2 = 1 → A q 1 = R 368 ∧ ∀ n, n < R 368 → rLn A q R n)
theorem rRu_of {A B : Nat → Nat → Nat} {q : Nat} {R : Nat → Nat} (h : rRu A q R) (e : ∀ a, q ≤ a → a ≤ q + 5 → B a = A a) : rRu B q R := by
  unfold rRu rLn
  rw [e q (by omega) (by omega), e (q + 1) (by omega) (by omega), e (q + 2) (by omega) (by omega), e (q + 3) (by omega) (by omega), e (q + 4) (by omega) (by omega), e (q + 5) (by omega) (by omega)]
  exact h
theorem rRu_R {A : Nat → Nat → Nat} {q : Nat} {R S : Nat → Nat} (h : rRu A q R) (e : ∀ i, i = 2 ∨ 368 ≤ i → S i = R i) : rRu A q S := by
  unfold rRu rLn
  rw [e 2 (by omega), e 368 (by omega)]
  refine ⟨h.1, h.2.1, fun z => ⟨(h.2.2 z).1, fun n hn => ?_⟩⟩
  rw [e (369 + 4 * n) (by omega), e (369 + 4 * n + 1) (by omega), e (369 + 4 * n + 2) (by omega), e (369 + 4 * n + 3) (by omega)]
  obtain ⟨a, b, c, d, f⟩ := (h.2.2 z).2 n hn
  exact ⟨a, b, c, d, fun i h1 h2 => by rw [e (417 + 2 * i) (by omega), e (417 + 2 * i + 1) (by omega)]; exact f i h1 h2⟩
/-- what is described of an op -/
def sbj (A : Nat → Nat → Nat) (R : Nat → Nat) (t p : Nat) : Prop := ∀ c n, c ≤ 9 → A 62 c = fct R t p c n
theorem fct_9 {R : Nat → Nat} {t p c n m : Nat} (h : c ≤ 9) : fct R t p c n = fct R t p c m := by
  unfold fct
  repeat' split
  all_goals first | rfl | omega
theorem w78 {X : gv_X} {d : Nat} {G : gv_Sh} {A : Nat → Nat → Nat} {j : Nat → Nat → Int64} {cc : gv_Rs} {P : gv_O × gv_S → Prop} {k : Nat} {a : Nat} {b : Nat} (hp48 : oX8 G 48) (H : (k < 4294967296) ∧ ((k = 20 → P (.inl (some (.int (nI (a + b)))), (G, (mI A, j), cc))) ∧ (k = 21 → (a < 2147483648) ∧ ((b < 2147483648) ∧ (((b ≤ a) → P (.inl (some (.int (nI 0))), (G, (mI A, j), cc))) ∧ ((a < b) → P (.inl (some (.int (nI 1))), (G, (mI A, j), cc)))))) ∧ (k = 22 → (a < 2147483648) ∧ ((b < 2147483648) ∧ (((a ≤ b) → P (.inl (some (.int (nI 0))), (G, (mI A, j), cc))) ∧ ((b < a) → P (.inl (some (.int (nI 1))), (G, (mI A, j), cc)))))) ∧ (k = 23 → P (.inl (some (.int (nI (a &&& b)))), (G, (mI A, j), cc))) ∧ ((k < 20 ∨ 23 < k) → P (.inl (some (.int (nI (a ||| b)))), (G, (mI A, j), cc))))) : EvP X (d + 0) gvm_78 0 (gv_enter [.ref 48, .int (nI k), .int (nI a), .int (nI b)] 4) [] (G, (mI A, j), cc) P :=
  (pv_iload_n rfl rfl   (Or.elim (Decidable.em (k = 20)) (fun c1e => (pn_tswl 20 32 rfl c1e (by decide) (by decide) rfl rfl (pv_iload_n rfl rfl   (pv_iload_n rfl rfl   (pn_iadd rfl   (pv_ireti rfl rfl (H.2.1 c1e))))))) (fun c1n0 => (Or.elim (Decidable.em (k = 21)) (fun c1e => (pn_tswl 21 36 rfl c1e (by decide) (by decide) rfl rfl (pv_iload_n rfl rfl   (pv_iload_n rfl rfl   (pn_ic_ge rfl (H.2.2.1 c1e).1 (H.2.2.1 c1e).2.1 (fun c2 => (pn_iconst rfl rfl   (pv_ireti rfl rfl ((H.2.2.1 c1e).2.2.1 c2)))) (fun c2 => (pn_iconst rfl rfl   (pv_goto rfl (pv_ireti rfl rfl ((H.2.2.1 c1e).2.2.2 c2)))))))))) (fun c1n1 => (Or.elim (Decidable.em (k = 22)) (fun c1e => (pn_tswl 22 47 rfl c1e (by decide) (by decide) rfl rfl (pv_iload_n rfl rfl   (pv_iload_n rfl rfl   (pn_ic_le rfl (H.2.2.2.1 c1e).1 (H.2.2.2.1 c1e).2.1 (fun c3 => (pn_iconst rfl rfl   (pv_ireti rfl rfl ((H.2.2.2.1 c1e).2.2.1 c3)))) (fun c3 => (pn_iconst rfl rfl   (pv_goto rfl (pv_ireti rfl rfl ((H.2.2.2.1 c1e).2.2.2 c3)))))))))) (fun c1n2 => (Or.elim (Decidable.em (k = 23)) (fun c1e => (pn_tswl 23 58 rfl c1e (by decide) (by decide) rfl rfl (pv_iload_n rfl rfl   (pv_iload_n rfl rfl   (pn_iand rfl   (pv_ireti rfl rfl (H.2.2.2.2.1 c1e))))))) (fun c1n3 => (have c1d : k < 20 ∨ 23 < k := (by omega); pn_tswlD 20 23 62 rfl rfl rfl (by decide) H.1 c1d rfl (pv_iload_n rfl rfl   (pv_iload_n rfl rfl   (pn_ior rfl   (pv_ireti rfl rfl (H.2.2.2.2.2 c1d)))))))))))))))
theorem c_joined_p {X : gv_X} {d : Nat} {G : gv_Sh} {A : Nat → Nat → Nat} {j : Nat → Nat → Int64} {cc : gv_Rs} {P : gv_O × gv_S → Prop} {k : Nat} {a : Nat} {b : Nat} (hp48 : oX8 G 48) (p0 : k < 4294967296) (p1 : a < 2147483648) (p2 : b < 2147483648) (hP : P (.inl (some (.int (nI (jnC k a b)))), (G, (mI A, j), cc))) : EvP X (d + 0) gvm_78 0 (gv_enter [.ref 48, .int (nI k), .int (nI a), .int (nI b)] 4) [] (G, (mI A, j), cc) P := by
  unfold jnC at hP
  refine w78 hp48  ⟨by omega, ⟨fun c1 => ?_, fun c1 => ⟨by omega, ⟨by omega, ⟨fun c2 => ?_, fun c2 => ?_⟩⟩⟩, fun c1 => ⟨by omega, ⟨by omega, ⟨fun c3 => ?_, fun c3 => ?_⟩⟩⟩, fun c1 => ?_, fun c1 => ?_⟩⟩
  · rw [if_pos c1] at hP; exact hP
  · rw [if_neg (by omega), if_pos c1, if_neg (by omega)] at hP; exact hP
  · rw [if_neg (by omega), if_pos c1, if_pos (by omega)] at hP; exact hP
  · rw [if_neg (by omega), if_neg (by omega), if_pos c1, if_neg (by omega)] at hP; exact hP
  · rw [if_neg (by omega), if_neg (by omega), if_pos c1, if_pos (by omega)] at hP; exact hP
  · rw [if_neg (by omega), if_neg (by omega), if_neg (by omega), if_pos c1] at hP; exact hP
  · rw [if_neg (by omega), if_neg (by omega), if_neg (by omega), if_neg (by omega)] at hP; exact hP
theorem c_joined {X : gv_X} {d : Nat} {G : gv_Sh} {A : Nat → Nat → Nat} {j : Nat → Nat → Int64} {cc : gv_Rs} {k : Nat} {a : Nat} {b : Nat} (hp48 : oX8 G 48) (p0 : k < 4294967296) (p1 : a < 2147483648) (p2 : b < 2147483648) : Ev X (d + 0) gvm_78 0 (gv_enter [.ref 48, .int (nI k), .int (nI a), .int (nI b)] 4) [] (G, (mI A, j), cc) (.inl (some (.int (nI (jnC k a b)))), (G, (mI A, j), cc)) := evp_det (c_joined_p hp48 p0 p1 p2 rfl)
theorem w77 {X : gv_X} {d : Nat} {G : gv_Sh} {A : Nat → Nat → Nat} {j : Nat → Nat → Int64} {cc : gv_Rs} {P : gv_O × gv_S → Prop} {n : Nat} (hp48 : oX8 G 48) (hp62 : G.2.1 62 = (100, 10)) (hp63 : G.2.1 63 = (100, 32)) (H : (n < 12) ∧ (((A 51 n) < 2147483648) ∧ (EvP X (d + 1) gvm_77 15 [some (.ref 48), some (.int (nI n)), some (.ref 62), some (.ref 63), some (.int (nI 0)), some (.int (nI (max 0 (A 51 n)))), none] [] (G, (mI A, j), cc) P))) : EvP X (d + 1) gvm_77 0 (gv_enter [.ref 48, .int (nI n), .ref 62, .ref 63] 7) [] (G, (mI A, j), cc) P :=
  (pn_iconst rfl rfl   (pv_istore rfl rfl   (pn_iconst rfl rfl   (pv_aload_n rfl rfl   (pv_getP rfl rfl (oX8_k hp48) (oX8_5 hp48)   (pv_iload_n rfl rfl   (pn_iald rfl (oX8_5c hp48) (by decide) H.1 rfl (pv_stat rfl rfl rfl rfl rfl rfl rfl rfl (k_max (a := 0) (b := (A 51 n)) (A := A) (by decide) H.2.1 ) (pv_istore rfl rfl   H.2.2)))))))))
theorem w77_15 {X : gv_X} {d : Nat} {G : gv_Sh} {A : Nat → Nat → Nat} {j : Nat → Nat → Int64} {cc : gv_Rs} {P : gv_O × gv_S → Prop} {n : Nat} {l4 : Nat} {l5 : Nat} {l6 : Option Value} (hp48 : oX8 G 48) (hp62 : G.2.1 62 = (100, 10)) (hp63 : G.2.1 63 = (100, 32)) (H : (n < 12) ∧ ((l5 < 2147483648) ∧ (((A 52 n) < 2147483648) ∧ ((((A 52 n) ≤ l5) → EvP X (d + 1) gvm_77 167 [some (.ref 48), some (.int (nI n)), some (.ref 62), some (.ref 63), some (.int (nI l4)), some (.int (nI l5)), l6] [] (G, (mI A, j), cc) P) ∧ ((l5 < (A 52 n)) → (l5 < 2147483648) ∧ (((400 ≤ l5) → EvP X (d + 1) gvm_77 167 [some (.ref 48), some (.int (nI n)), some (.ref 62), some (.ref 63), some (.int (nI l4)), some (.int (nI l5)), l6] [] (G, (mI A, j), cc) P) ∧ ((l5 < 400) → (l5 < 400) ∧ (EvP X (d + 1) gvm_77 43 [some (.ref 48), some (.int (nI n)), some (.ref 62), some (.ref 63), some (.int (nI l4)), some (.int (nI l5)), some (.int (nI (A 53 l5)))] [] (G, (mI A, j), cc) P)))))))) : EvP X (d + 1) gvm_77 15 [some (.ref 48), some (.int (nI n)), some (.ref 62), some (.ref 63), some (.int (nI l4)), some (.int (nI l5)), l6] [] (G, (mI A, j), cc) P :=
  (pv_iload rfl rfl   (pv_aload_n rfl rfl   (pv_getP rfl rfl (oX8_k hp48) (oX8_6 hp48)   (pv_iload_n rfl rfl   (pn_iald rfl (oX8_6c hp48) (by decide) H.1 rfl (pn_ic_ge rfl H.2.1 H.2.2.1 (fun c1 => (H.2.2.2.1 c1)) (fun c1 => (pv_iload rfl rfl   (pn_sipush rfl rfl   (pn_ic_ge rfl (H.2.2.2.2 c1).1 (by decide) (fun c2 => ((H.2.2.2.2 c1).2.1 c2)) (fun c2 => (pv_aload_n rfl rfl   (pv_getP rfl rfl (oX8_k hp48) (oX8_7 hp48)   (pv_iload rfl rfl   (pn_iald rfl (oX8_7c hp48) (by decide) ((H.2.2.2.2 c1).2.2 c2).1 rfl (pv_istore rfl rfl   ((H.2.2.2.2 c1).2.2 c2).2))))))))))))))))
theorem w77_43 {X : gv_X} {d : Nat} {G : gv_Sh} {A : Nat → Nat → Nat} {j : Nat → Nat → Int64} {cc : gv_Rs} {P : gv_O × gv_S → Prop} {n : Nat} {l4 : Nat} {l5 : Nat} {l6 : Nat} (hp48 : oX8 G 48) (hp62 : G.2.1 62 = (100, 10)) (hp63 : G.2.1 63 = (100, 32)) (H : (l6 < 2147483648) ∧ (((1000 ≤ l6) → EvP X (d + 1) gvm_77 63 [some (.ref 48), some (.int (nI n)), some (.ref 62), some (.ref 63), some (.int (nI l4)), some (.int (nI l5)), some (.int (nI l6))] [] (G, (mI A, j), cc) P) ∧ ((l6 < 1000) → (l6 < 4294967296) ∧ (((2147483648 ≤ l6) → EvP X (d + 1) gvm_77 101 [some (.ref 48), some (.int (nI n)), some (.ref 62), some (.ref 63), some (.int (nI l4)), some (.int (nI l5)), some (.int (nI l6))] [] (G, (mI A, j), cc) P) ∧ ((l6 < 2147483648) → (l6 < 2147483648) ∧ (((10 ≤ l6) → EvP X (d + 1) gvm_77 101 [some (.ref 48), some (.int (nI n)), some (.ref 62), some (.ref 63), some (.int (nI l4)), some (.int (nI l5)), some (.int (nI l6))] [] (G, (mI A, j), cc) P) ∧ ((l6 < 10) → EvP X (d + 1) gvm_77 63 [some (.ref 48), some (.int (nI n)), some (.ref 62), some (.ref 63), some (.int (nI l4)), some (.int (nI l5)), some (.int (nI l6))] [] (G, (mI A, j), cc) P))))))) : EvP X (d + 1) gvm_77 43 [some (.ref 48), some (.int (nI n)), some (.ref 62), some (.ref 63), some (.int (nI l4)), some (.int (nI l5)), some (.int (nI l6))] [] (G, (mI A, j), cc) P :=
  (pv_iload rfl rfl   (pn_sipush rfl rfl   (pn_ic_ge rfl H.1 (by decide) (fun c1 => (H.2.1 c1)) (fun c1 => (pv_iload rfl rfl   (pn_if_lt rfl (H.2.2 c1).1 (fun c2 => ((H.2.2 c1).2.1 c2)) (fun c2 => (pv_iload rfl rfl   (pv_aload_n rfl rfl   (pv_alen rfl hp62   (pn_ic_ge rfl ((H.2.2 c1).2.2 c2).1 (by decide) (fun c3 => (((H.2.2 c1).2.2 c2).2.1 c3)) (fun c3 => (((H.2.2 c1).2.2 c2).2.2 c3)))))))))))))
theorem w77_63 {X : gv_X} {d : Nat} {G : gv_Sh} {A : Nat → Nat → Nat} {j : Nat → Nat → Int64} {cc : gv_Rs} {P : gv_O × gv_S → Prop} {n : Nat} {l4 : Nat} {l5 : Nat} {l6 : Nat} (hp48 : oX8 G 48) (hp62 : G.2.1 62 = (100, 10)) (hp63 : G.2.1 63 = (100, 32)) (H : (l4 < 2147483648) ∧ (((32 ≤ l4) → EvP X (d + 1) gvm_77 161 [some (.ref 48), some (.int (nI n)), some (.ref 62), some (.ref 63), some (.int (nI l4)), some (.int (nI l5)), some (.int (nI l6))] [] (G, (mI A, j), cc) P) ∧ ((l4 < 32) → (l6 < 2147483648) ∧ (((l6 < 1000) → (l6 < 10) ∧ ((l4 < 32) ∧ (EvP X (d + 1) gvm_77 161 [some (.ref 48), some (.int (nI n)), some (.ref 62), some (.ref 63), some (.int (nI (l4 + 1))), some (.int (nI l5)), some (.int (nI l6))] [] (G, (mI (gu A 63 l4 (A 62 l6)), j), cc) P))) ∧ ((1000 ≤ l6) → (1000 ≤ l6) ∧ ((l4 < 32) ∧ (EvP X (d + 1) gvm_77 161 [some (.ref 48), some (.int (nI n)), some (.ref 62), some (.ref 63), some (.int (nI (l4 + 1))), some (.int (nI l5)), some (.int (nI l6))] [] (G, (mI (gu A 63 l4 (l6 - 1000)), j), cc) P))))))) : EvP X (d + 1) gvm_77 63 [some (.ref 48), some (.int (nI n)), some (.ref 62), some (.ref 63), some (.int (nI l4)), some (.int (nI l5)), some (.int (nI l6))] [] (G, (mI A, j), cc) P :=
  (pv_iload rfl rfl   (pv_aload_n rfl rfl   (pv_alen rfl hp63   (pn_ic_ge rfl H.1 (by decide) (fun c1 => (H.2.1 c1)) (fun c1 => (pv_aload_n rfl rfl   (pv_iload rfl rfl   (pv_iload rfl rfl   (pn_sipush rfl rfl   (pn_ic_lt rfl (H.2.2 c1).1 (by decide) (fun c2 => (pv_aload_n rfl rfl   (pv_iload rfl rfl   (pn_iald rfl hp62 (by decide) ((H.2.2 c1).2.1 c2).1 rfl (pn_iast rfl hp63 (by decide) ((H.2.2 c1).2.1 c2).2.1  (pn_iinc rfl rfl rfl rfl   (pv_goto rfl ((H.2.2 c1).2.1 c2).2.2))))))) (fun c2 => (pv_iload rfl rfl   (pn_sipush rfl rfl   (pn_isub rfl ((H.2.2 c1).2.2 c2).1  (pv_goto rfl (pn_iast rfl hp63 (by decide) ((H.2.2 c1).2.2 c2).2.1  (pn_iinc rfl rfl rfl rfl   (pv_goto rfl ((H.2.2 c1).2.2 c2).2.2))))))))))))))))))
theorem w77_101 {X : gv_X} {d : Nat} {G : gv_Sh} {A : Nat → Nat → Nat} {j : Nat → Nat → Int64} {cc : gv_Rs} {P : gv_O × gv_S → Prop} {n : Nat} {l4 : Nat} {l5 : Nat} {l6 : Nat} (hp48 : oX8 G 48) (hp62 : G.2.1 62 = (100, 10)) (hp63 : G.2.1 63 = (100, 32)) (H : (l6 < 4294967296) ∧ (((¬ l6 = 25) → (l4 < 2147483648) ∧ (((l4 ≤ 1) → EvP X (d + 1) gvm_77 161 [some (.ref 48), some (.int (nI n)), some (.ref 62), some (.ref 63), some (.int (nI l4)), some (.int (nI l5)), some (.int (nI l6))] [] (G, (mI A, j), cc) P) ∧ ((1 < l4) → (1 ≤ l4) ∧ ((1 ≤ (l4 - 1)) ∧ ((1 ≤ (l4 - 1)) ∧ ((((l4 - 1) - 1) < 32) ∧ (((l4 - 1) < 32) ∧ ((l6 < 4294967296) ∧ (((A 63 ((l4 - 1) - 1)) < 2147483648) ∧ (((A 63 (l4 - 1)) < 2147483648) ∧ ((((l4 - 1) - 1) < 32) ∧ (EvP X (d + 1) gvm_77 161 [some (.ref 48), some (.int (nI n)), some (.ref 62), some (.ref 63), some (.int (nI (l4 - 1))), some (.int (nI l5)), some (.int (nI l6))] [] (G, (mI (gu A 63 ((l4 - 1) - 1) (jnC l6 (A 63 ((l4 - 1) - 1)) (A 63 (l4 - 1)))), j), cc) P)))))))))))) ∧ ((l6 = 25) → (l4 < 4294967296) ∧ (((l4 = 0 ∨ 2147483648 ≤ l4) → EvP X (d + 1) gvm_77 161 [some (.ref 48), some (.int (nI n)), some (.ref 62), some (.ref 63), some (.int (nI l4)), some (.int (nI l5)), some (.int (nI l6))] [] (G, (mI A, j), cc) P) ∧ ((0 < l4 ∧ l4 < 2147483648) → (1 ≤ l4) ∧ ((1 ≤ l4) ∧ (((l4 - 1) < 32) ∧ (((A 63 (l4 - 1)) ≤ 1) ∧ (((l4 - 1) < 32) ∧ (EvP X (d + 1) gvm_77 161 [some (.ref 48), some (.int (nI n)), some (.ref 62), some (.ref 63), some (.int (nI l4)), some (.int (nI l5)), some (.int (nI l6))] [] (G, (mI (gu A 63 (l4 - 1) (1 - (A 63 (l4 - 1)))), j), cc) P)))))))))) : EvP X (d + 1) gvm_77 101 [some (.ref 48), some (.int (nI n)), some (.ref 62), some (.ref 63), some (.int (nI l4)), some (.int (nI l5)), some (.int (nI l6))] [] (G, (mI A, j), cc) P :=
  (pv_iload rfl rfl   (pn_bipush rfl rfl   (pn_ic_ne rfl H.1 (by decide) (fun c1 => (pv_iload rfl rfl   (pn_iconst rfl rfl   (pn_ic_le rfl (H.2.1 c1).1 (by decide) (fun c2 => ((H.2.1 c1).2.1 c2)) (fun c2 => (pn_idec rfl (by decide) ((H.2.1 c1).2.2 c2).1 rfl rfl (pv_aload_n rfl rfl   (pv_iload rfl rfl   (pn_iconst rfl rfl   (pn_isub rfl ((H.2.1 c1).2.2 c2).2.1  (pv_aload_n rfl rfl   (pv_iload rfl rfl   (pv_aload_n rfl rfl   (pv_iload rfl rfl   (pn_iconst rfl rfl   (pn_isub rfl ((H.2.1 c1).2.2 c2).2.2.1  (pn_iald rfl hp63 (by decide) ((H.2.1 c1).2.2 c2).2.2.2.1 rfl (pv_aload_n rfl rfl   (pv_iload rfl rfl   (pn_iald rfl hp63 (by decide) ((H.2.1 c1).2.2 c2).2.2.2.2.1 rfl (pv_virt rfl rfl rfl rfl rfl (oX8_k hp48) rfl rfl rfl (c_joined (k := l6) (a := (A 63 ((l4 - 1) - 1))) (b := (A 63 (l4 - 1))) (A := A) hp48 ((H.2.1 c1).2.2 c2).2.2.2.2.2.1 ((H.2.1 c1).2.2 c2).2.2.2.2.2.2.1 ((H.2.1 c1).2.2 c2).2.2.2.2.2.2.2.1 ) (pn_iast rfl hp63 (by decide) ((H.2.1 c1).2.2 c2).2.2.2.2.2.2.2.2.1  ((H.2.1 c1).2.2 c2).2.2.2.2.2.2.2.2.2)))))))))))))))))))))) (fun c1 => (pv_iload rfl rfl   (pn_if_le rfl (H.2.2 c1).1 (fun c3 => ((H.2.2 c1).2.1 c3)) (fun c3 => (pv_aload_n rfl rfl   (pv_iload rfl rfl   (pn_iconst rfl rfl   (pn_isub rfl ((H.2.2 c1).2.2 c3).1  (pn_iconst rfl rfl   (pv_aload_n rfl rfl   (pv_iload rfl rfl   (pn_iconst rfl rfl   (pn_isub rfl ((H.2.2 c1).2.2 c3).2.1  (pn_iald rfl hp63 (by decide) ((H.2.2 c1).2.2 c3).2.2.1 rfl (pn_isub rfl ((H.2.2 c1).2.2 c3).2.2.2.1  (pn_iast rfl hp63 (by decide) ((H.2.2 c1).2.2 c3).2.2.2.2.1  (pv_goto rfl ((H.2.2 c1).2.2 c3).2.2.2.2.2))))))))))))))))))))
theorem w77_161 {X : gv_X} {d : Nat} {G : gv_Sh} {A : Nat → Nat → Nat} {j : Nat → Nat → Int64} {cc : gv_Rs} {P : gv_O × gv_S → Prop} {n : Nat} {l4 : Nat} {l5 : Nat} {l6 : Nat} (hp48 : oX8 G 48) (hp62 : G.2.1 62 = (100, 10)) (hp63 : G.2.1 63 = (100, 32)) (H : EvP X (d + 1) gvm_77 15 [some (.ref 48), some (.int (nI n)), some (.ref 62), some (.ref 63), some (.int (nI l4)), some (.int (nI (l5 + 1))), some (.int (nI l6))] [] (G, (mI A, j), cc) P) : EvP X (d + 1) gvm_77 161 [some (.ref 48), some (.int (nI n)), some (.ref 62), some (.ref 63), some (.int (nI l4)), some (.int (nI l5)), some (.int (nI l6))] [] (G, (mI A, j), cc) P :=
  (pn_iinc rfl rfl rfl rfl   (pv_goto rfl H))
theorem w77_167 {X : gv_X} {d : Nat} {G : gv_Sh} {A : Nat → Nat → Nat} {j : Nat → Nat → Int64} {cc : gv_Rs} {P : gv_O × gv_S → Prop} {n : Nat} {l4 : Nat} {l5 : Nat} {l6 : Option Value} (hp48 : oX8 G 48) (hp62 : G.2.1 62 = (100, 10)) (hp63 : G.2.1 63 = (100, 32)) (H : (l4 < 2147483648) ∧ (((l4 < 1) → P (.inl (some (.int (nI 1))), (G, (mI A, j), cc))) ∧ ((1 ≤ l4) → ((A 63 0) < 4294967296) ∧ ((((A 63 0) = 0) → P (.inl (some (.int (nI 0))), (G, (mI A, j), cc))) ∧ ((¬ (A 63 0) = 0) → P (.inl (some (.int (nI 1))), (G, (mI A, j), cc))))))) : EvP X (d + 1) gvm_77 167 [some (.ref 48), some (.int (nI n)), some (.ref 62), some (.ref 63), some (.int (nI l4)), some (.int (nI l5)), l6] [] (G, (mI A, j), cc) P :=
  (pv_iload rfl rfl   (pn_iconst rfl rfl   (pn_ic_lt rfl H.1 (by decide) (fun c1 => (pn_iconst rfl rfl   (pv_goto rfl (pv_iretz rfl rfl (Or.inr rfl) (H.2.1 c1))))) (fun c1 => (pv_aload_n rfl rfl   (pn_iconst rfl rfl   (pn_iald rfl hp63 (by decide) (by decide) rfl (pn_if_eq rfl (H.2.2 c1).1 (fun c2 => (pn_iconst rfl rfl   (pv_iretz rfl rfl (Or.inl rfl) ((H.2.2 c1).2.1 c2)))) (fun c2 => (pn_iconst rfl rfl   (pv_goto rfl (pv_iretz rfl rfl (Or.inr rfl) ((H.2.2 c1).2.2 c2)))))))))))))
theorem c_holds_p {X : gv_X} {d : Nat} {G : gv_Sh} {A : Nat → Nat → Nat} {j : Nat → Nat → Int64} {cc : gv_Rs} {P : gv_O × gv_S → Prop} {n : Nat} {R : Nat → Nat} {t : Nat} {p : Nat} (hp48 : oX8 G 48) (hp62 : G.2.1 62 = (100, 10)) (hp63 : G.2.1 63 = (100, 32)) (p0 : okW R) (p1 : p < 8) (p2 : n < 12) (p3 : okLn R n) (p4 : rLn A 48 R n) (p5 : sbj A R t p) (hP : ∀ A1 : Nat → Nat → Nat, (∀ a, a ≠ 63 → A1 a = A a) → P (.inl (some (.int (zo (hlS R t p n)))), (G, (mI A1, j), cc))) : EvP X (d + 1) gvm_77 0 (gv_enter [.ref 48, .int (nI n), .ref 62, .ref 63] 7) [] (G, (mI A, j), cc) P := by
  have hS := hld_S (t := t) (p := p) (V := A 63) p3
  obtain ⟨g1, g2, g3, g4, g5, u, hu, u1, u2⟩ := p3
  obtain ⟨r1, r2, r3, r4, r5⟩ := p4
  have r3 : A 51 n = R (369 + 4 * n + 2) := r3
  have r4 : A 52 n = R (369 + 4 * n + 3) := r4
  have r5 : ∀ i, R (369 + 4 * n + 2) ≤ i → i < R (369 + 4 * n + 3) → A 53 i = cdN (R (417 + 2 * i)) (R (417 + 2 * i + 1)) := r5
  obtain ⟨b0, h0⟩ : ∃ b, b = R (369 + 4 * n + 2) := ⟨_, rfl⟩
  obtain ⟨e0, h1⟩ : ∃ b, b = R (369 + 4 * n + 3) := ⟨_, rfl⟩
  rw [← h0] at g3 g5 hu r3 r5
  rw [← h1] at g3 g4 g5 hu r4 r5
  have hS2 : hlS R t p n = (decide ((evL (fun i => fct R t p (R (417 + 2 * i)) (R (417 + 2 * i + 1))) (fun i => R (417 + 2 * i)) (e0 - b0) b0 (0, A 63)).1 = 0) || decide ((evL (fun i => fct R t p (R (417 + 2 * i)) (R (417 + 2 * i + 1))) (fun i => R (417 + 2 * i)) (e0 - b0) b0 (0, A 63)).2 0 = 1)) := by
    rw [← hS, h0, h1]; rfl
  have Lp : ∀ i k (s : Sy) (v : Sv) B, k + i = e0 → b0 ≤ k → tyL (fun i => R (417 + 2 * i)) i k s = some u → okV s v (999 * k) → B 63 = v.2 → (∀ a, a ≠ 63 → B a = A a) → evL (fun i => fct R t p (R (417 + 2 * i)) (R (417 + 2 * i + 1))) (fun i => R (417 + 2 * i)) i k v = evL (fun i => fct R t p (R (417 + 2 * i)) (R (417 + 2 * i + 1))) (fun i => R (417 + 2 * i)) (e0 - b0) b0 (0, A 63) → ∀ l6, EvP X (d + 1) gvm_77 15 [some (.ref 48), some (.int (nI n)), some (.ref 62), some (.ref 63), some (.int (nI v.1)), some (.int (nI k)), l6] [] (G, (mI B, j), cc) P := by
    intro i
    induction i with
    | zero =>
      intro k s v B hk kb ht hv h63 hf he l6
      have e52 : B 52 = A 52 := hf 52 (by decide)
      cases ht
      have v1 := hv.1
      have v2 := hv.2.1
      have he : v = evL (fun i => fct R t p (R (417 + 2 * i)) (R (417 + 2 * i + 1))) (fun i => R (417 + 2 * i)) (e0 - b0) b0 (0, A 63) := he
      rw [← he] at hS2
      refine w77_15 hp48 hp62 hp63 ⟨by omega, by omega, by rw [e52]; omega, fun c1 => ?_, fun c1 => absurd c1 (by rw [e52]; omega)⟩
      refine w77_167 hp48 hp62 hp63 ⟨by omega, fun c2 => qz1 (hP B hf) ?_, fun c2 => ⟨?_, fun c3 => qz0 (hP B hf) ?_, fun c3 => qz1 (hP B hf) ?_⟩⟩
      · rw [hS2, decide_eq_true (show v.1 = 0 by omega)]; rfl
      · have := hv.2.2.1 0 (by omega) (u2 (by omega))
        rw [h63]; omega
      · rw [h63] at c3
        rw [hS2, decide_eq_false (show ¬ v.1 = 0 by omega), decide_eq_false (show ¬ v.2 0 = 1 by omega)]; rfl
      · have := hv.2.2.1 0 (by omega) (u2 (by omega))
        rw [h63] at c3
        rw [hS2, decide_eq_true (show v.2 0 = 1 by omega), Bool.or_true]
    | succ i ih =>
      intro k s v B hk kb ht hv h63 hf he l6
      have e52 : B 52 = A 52 := hf 52 (by decide)
      have e53 : B 53 = A 53 := hf 53 (by decide)
      have e62 : B 62 = A 62 := hf 62 (by decide)
      obtain ⟨cc0, hc0⟩ : ∃ x, x = R (417 + 2 * k) := ⟨_, rfl⟩
      obtain ⟨nn, hn0⟩ : ∃ x, x = R (417 + 2 * k + 1) := ⟨_, rfl⟩
      have cb := g5 k kb (by omega)
      have hcd := r5 k kb (by omega)
      rw [← hc0, ← hn0] at cb hcd
      have ht : (match tyC (R (417 + 2 * k)) s with | none => none | some t => tyL (fun i => R (417 + 2 * i)) i (k + 1) t) = some u := ht
      rw [← hc0] at ht
      cases hty : tyC cc0 s with
      | none => rw [hty] at ht; cases ht
      | some s' =>
        rw [hty] at ht
        have f9 : fct R t p cc0 nn ≤ 999 := fct_le p0 p1 cb.2
        obtain ⟨o1, o2, o3, o4⟩ := okV_step hty hv f9 (fun a b => fct_b p0 p1 a b)
        have he2 : evL (fun i => fct R t p (R (417 + 2 * i)) (R (417 + 2 * i + 1))) (fun i => R (417 + 2 * i)) i (k + 1) (evC (fct R t p cc0 nn) cc0 v) = evL (fun i => fct R t p (R (417 + 2 * i)) (R (417 + 2 * i + 1))) (fun i => R (417 + 2 * i)) (e0 - b0) b0 (0, A 63) := by
          rw [← he, hc0, hn0]; rfl
        have hvb : ∀ x, x < v.1 → v.2 x ≤ 999 * k := fun x hx => by
          have := sumN_le (V := v.2) (n := s.1) (x := x) (by rw [← hv.1]; exact hx)
          have := hv.2.2.2
          omega
        have v32 := hv.2.1
        have v1 := hv.1
        have go : ∀ D, D 63 = (evC (fct R t p cc0 nn) cc0 v).2 → (∀ a, a ≠ 63 → D a = A a) → EvP X (d + 1) gvm_77 161 [some (.ref 48), some (.int (nI n)), some (.ref 62), some (.ref 63), some (.int (nI (evC (fct R t p cc0 nn) cc0 v).1)), some (.int (nI k)), some (.int (nI (cdN cc0 nn)))] [] (G, (mI D, j), cc) P := fun D d1 d2 =>
          w77_161 hp48 hp62 hp63 (ih (k + 1) s' _ D (by omega) (by omega) ht (by rw [show 999 * (k + 1) = 999 * k + 999 by omega]; exact o1) d1 d2 he2 _)
        have h43 : EvP X (d + 1) gvm_77 43 [some (.ref 48), some (.int (nI n)), some (.ref 62), some (.ref 63), some (.int (nI v.1)), some (.int (nI k)), some (.int (nI (cdN cc0 nn)))] [] (G, (mI B, j), cc) P := by
          by_cases k1 : cc0 ≤ 10
          · have q1 := o2 k1
            have ev : evC (fct R t p cc0 nn) cc0 v = (v.1 + 1, fun i => if i = v.1 then fct R t p cc0 nn else v.2 i) := if_pos k1
            rw [ev] at go
            have fin : ∀ x, x = fct R t p cc0 nn → EvP X (d + 1) gvm_77 161 [some (.ref 48), some (.int (nI n)), some (.ref 62), some (.ref 63), some (.int (nI (v.1 + 1))), some (.int (nI k)), some (.int (nI (cdN cc0 nn)))] [] (G, (mI (gu B 63 v.1 x), j), cc) P := fun x hx => go _ (by rw [gu_at, h63, hx]) (fun a ha => by rw [gu_row ha]; exact hf a ha)
            have h63' : EvP X (d + 1) gvm_77 63 [some (.ref 48), some (.int (nI n)), some (.ref 62), some (.ref 63), some (.int (nI v.1)), some (.int (nI k)), some (.int (nI (cdN cc0 nn)))] [] (G, (mI B, j), cc) P := by
              by_cases k2 : cc0 = 10
              · have e1 : cdN cc0 nn = 1000 + nn := by rw [k2]; rfl
                rw [e1] at fin ⊢
                refine w77_63 hp48 hp62 hp63 ⟨by omega, fun c1 => absurd c1 (by omega), fun c1 => ⟨by omega, fun c2 => absurd c2 (by omega), fun c2 => ⟨by omega, by omega, fin _ ?_⟩⟩⟩
                rw [k2, show 1000 + nn - 1000 = nn by omega]; rfl
              · have e1 : cdN cc0 nn = cc0 := if_pos (by omega)
                rw [e1] at fin ⊢
                refine w77_63 hp48 hp62 hp63 ⟨by omega, fun c1 => absurd c1 (by omega), fun c1 => ⟨by omega, fun c2 => ⟨by omega, by omega, fin _ ?_⟩, fun c2 => absurd c2 (by omega)⟩⟩
                rw [e62]; exact p5 cc0 nn (by omega)
            have hx : cdN cc0 nn < 10 ∨ (1000 ≤ cdN cc0 nn ∧ cdN cc0 nn < 2000) := by
              by_cases k2 : cc0 = 10
              · rw [k2]; exact Or.inr ⟨by show 1000 ≤ 1000 + nn; omega, by show 1000 + nn < 2000; omega⟩
              · rw [show cdN cc0 nn = cc0 from if_pos (by omega)]; omega
            exact w77_43 hp48 hp62 hp63 ⟨by omega, fun c1 => h63', fun c1 => ⟨by omega, fun c2 => absurd c2 (by omega), fun c2 => ⟨by omega, fun c3 => absurd c3 (by omega), fun c3 => h63'⟩⟩⟩
          · have hx : 20 ≤ cdN cc0 nn ∧ cdN cc0 nn ≤ 25 ∧ (cdN cc0 nn = 25 ↔ cc0 = 14) := by
              rcases (by omega : cc0 = 11 ∨ cc0 = 12 ∨ cc0 = 13 ∨ cc0 = 14 ∨ cc0 = 15 ∨ cc0 = 16) with e | e | e | e | e | e <;> (rw [e]; simp [cdN])
            have h101 : EvP X (d + 1) gvm_77 101 [some (.ref 48), some (.int (nI n)), some (.ref 62), some (.ref 63), some (.int (nI v.1)), some (.int (nI k)), some (.int (nI (cdN cc0 nn)))] [] (G, (mI B, j), cc) P := by
              by_cases k2 : cc0 = 14
              · obtain ⟨q1, q2⟩ := o3 k1 k2
                have ev : evC (fct R t p cc0 nn) cc0 v = (v.1, fun i => if i = v.1 - 1 then 1 - v.2 (v.1 - 1) else v.2 i) := by
                  unfold evC; rw [if_neg k1, if_pos k2]
                rw [ev] at go
                refine w77_101 hp48 hp62 hp63 ⟨by omega, fun c1 => absurd (hx.2.2.mpr k2) c1, fun c1 => ⟨by omega, fun c2 => absurd c2 (by omega), fun c2 => ⟨by omega, by omega, by omega, by rw [h63]; exact q2, by omega, go _ ?_ ?_⟩⟩⟩
                · rw [gu_at, h63]
                · exact fun a ha => by rw [gu_row ha]; exact hf a ha
              · obtain ⟨q1, q2, q3⟩ := o4 k1 k2
                have ev : evC (fct R t p cc0 nn) cc0 v = (v.1 - 1, fun i => if i = v.1 - 1 - 1 then jn cc0 (v.2 (v.1 - 1 - 1)) (v.2 (v.1 - 1)) else v.2 i) := by
                  unfold evC; rw [if_neg k1, if_neg k2]
                rw [ev] at go
                have y1 := hvb (v.1 - 1) (by omega)
                have y2 := hvb (v.1 - 1 - 1) (by omega)
                refine w77_101 hp48 hp62 hp63 ⟨by omega, fun c1 => ⟨by omega, fun c2 => absurd c2 (by omega), fun c2 => ⟨by omega, by omega, by omega, by omega, by omega, by omega, by rw [h63]; omega, by rw [h63]; omega, by omega, go _ ?_ ?_⟩⟩, fun c1 => absurd (hx.2.2.mp c1) k2⟩
                · rw [gu_at, h63, jnC_eq k1 k2 q2 q3]
                · exact fun a ha => by rw [gu_row ha]; exact hf a ha
            exact w77_43 hp48 hp62 hp63 ⟨by omega, fun c1 => absurd c1 (by omega), fun c1 => ⟨by omega, fun c2 => h101, fun c2 => ⟨by omega, fun c3 => h101, fun c3 => absurd c3 (by omega)⟩⟩⟩
        refine w77_15 hp48 hp62 hp63 ⟨by omega, by omega, by rw [e52]; omega, fun c1 => absurd c1 (by rw [e52]; omega), fun c1 => ⟨by omega, fun c2 => absurd c2 (by omega), fun c2 => ⟨by omega, ?_⟩⟩⟩
        rw [e53, hcd]
        exact h43
  refine w77 hp48 hp62 hp63 ⟨by omega, by rw [r3]; omega, ?_⟩
  rw [r3, show max 0 b0 = b0 by omega]
  refine Lp (e0 - b0) b0 (0, fun _ => false) (0, A 63) A (by omega) (Nat.le_refl _) hu ⟨rfl, by decide, fun x hx => absurd hx (Nat.not_lt_zero x), ?_⟩ rfl (fun _ _ => rfl) rfl _
  show 0 ≤ 999 * b0
  omega
theorem c_holds {X : gv_X} {d : Nat} {G : gv_Sh} {A : Nat → Nat → Nat} {j : Nat → Nat → Int64} {cc : gv_Rs} {n : Nat} {R : Nat → Nat} {t : Nat} {p : Nat} (hp48 : oX8 G 48) (hp62 : G.2.1 62 = (100, 10)) (hp63 : G.2.1 63 = (100, 32)) (p0 : okW R) (p1 : p < 8) (p2 : n < 12) (p3 : okLn R n) (p4 : rLn A 48 R n) (p5 : sbj A R t p) : ∃ A1 : Nat → Nat → Nat, Ev X (d + 1) gvm_77 0 (gv_enter [.ref 48, .int (nI n), .ref 62, .ref 63] 7) [] (G, (mI A, j), cc) (.inl (some (.int (zo (hlS R t p n)))), (G, (mI A1, j), cc)) ∧ (∀ a, a ≠ 63 → A1 a = A a) := by
  obtain ⟨_, h, A1, rfl, hp⟩ := c_holds_p (X := X) (d := d) (G := G) (A := A) (j := j) (cc := cc) (n := n) (R := R) (t := t) (p := p) (P := fun r => ∃ A1 : Nat → Nat → Nat, r = (.inl (some (.int (zo (hlS R t p n)))), (G, (mI A1, j), cc)) ∧ (∀ a, a ≠ 63 → A1 a = A a)) hp48 hp62 hp63 p0 p1 p2 p3 p4 p5 (fun A1 h => ⟨A1, rfl, h⟩)
  exact ⟨A1, h, hp⟩
theorem w76 {X : gv_X} {d : Nat} {G : gv_Sh} {A : Nat → Nat → Nat} {j : Nat → Nat → Int64} {cc : gv_Rs} {P : gv_O × gv_S → Prop} {so : Nat} (hp48 : oX8 G 48) (hp62 : G.2.1 62 = (100, 10)) (hp63 : G.2.1 63 = (100, 32)) (H : EvP X (d + 2) gvm_76 6 [some (.ref 48), some (.int (nI so)), some (.ref 62), some (.ref 63), some (.int (nI 0)), some (.int (nI 0))] [] (G, (mI A, j), cc) P) : EvP X (d + 2) gvm_76 0 (gv_enter [.ref 48, .int (nI so), .ref 62, .ref 63] 6) [] (G, (mI A, j), cc) P :=
  (pn_iconst rfl rfl   (pv_istore rfl rfl   (pn_iconst rfl rfl   (pv_istore rfl rfl   H))))
theorem w76_6 {X : gv_X} {d : Nat} {G : gv_Sh} {A : Nat → Nat → Nat} {j : Nat → Nat → Int64} {cc : gv_Rs} {P : gv_O × gv_S → Prop} {so : Nat} {l4 : Nat} {l5 : Nat} {R : Nat → Nat} {t : Nat} {p : Nat} (hp48 : oX8 G 48) (hp62 : G.2.1 62 = (100, 10)) (hp63 : G.2.1 63 = (100, 32)) (H : (l5 < 2147483648) ∧ (((A 48 1) < 2147483648) ∧ ((((A 48 1) ≤ l5) → P (.inl (some (.int (nI l4))), (G, (mI A, j), cc))) ∧ ((l5 < (A 48 1)) → (l5 < 2147483648) ∧ (((12 ≤ l5) → P (.inl (some (.int (nI l4))), (G, (mI A, j), cc))) ∧ ((l5 < 12) → (l5 < 12) ∧ (((A 49 l5) < 4294967296) ∧ ((so < 4294967296) ∧ (((¬ (A 49 l5) = so) → EvP X (d + 2) gvm_76 6 [some (.ref 48), some (.int (nI so)), some (.ref 62), some (.ref 63), some (.int (nI l4)), some (.int (nI (l5 + 1)))] [] (G, (mI A, j), cc) P) ∧ (((A 49 l5) = so) → (okW R) ∧ ((p < 8) ∧ ((l5 < 12) ∧ ((okLn R l5) ∧ ((rLn A 48 R l5) ∧ ((sbj A R t p) ∧ ((∀ A1v1 : Nat → Nat → Nat, ((∀ a, a ≠ 63 → A1v1 a = A a)) → (((hlS R t p l5) = false) → EvP X (d + 2) gvm_76 6 [some (.ref 48), some (.int (nI so)), some (.ref 62), some (.ref 63), some (.int (nI l4)), some (.int (nI (l5 + 1)))] [] (G, (mI A1v1, j), cc) P) ∧ (((hlS R t p l5) = true) → (l5 < 12) ∧ (EvP X (d + 2) gvm_76 6 [some (.ref 48), some (.int (nI so)), some (.ref 62), some (.ref 63), some (.int (nI (l4 + (A1v1 50 l5)))), some (.int (nI (l5 + 1)))] [] (G, (mI A1v1, j), cc) P))))))))))))))))))) : EvP X (d + 2) gvm_76 6 [some (.ref 48), some (.int (nI so)), some (.ref 62), some (.ref 63), some (.int (nI l4)), some (.int (nI l5))] [] (G, (mI A, j), cc) P :=
  (pv_iload rfl rfl   (pv_aload_n rfl rfl   (pn_getI rfl rfl (oX8_k hp48) rfl   (pn_ic_ge rfl H.1 H.2.1 (fun c1 => (pv_iload rfl rfl   (pv_ireti rfl rfl (H.2.2.1 c1)))) (fun c1 => (pv_iload rfl rfl   (pn_bipush rfl rfl   (pn_ic_ge rfl (H.2.2.2 c1).1 (by decide) (fun c2 => (pv_iload rfl rfl   (pv_ireti rfl rfl ((H.2.2.2 c1).2.1 c2)))) (fun c2 => (pv_aload_n rfl rfl   (pv_getP rfl rfl (oX8_k hp48) (oX8_3 hp48)   (pv_iload rfl rfl   (pn_iald rfl (oX8_3c hp48) (by decide) ((H.2.2.2 c1).2.2 c2).1 rfl (pv_iload_n rfl rfl   (pn_ic_ne rfl ((H.2.2.2 c1).2.2 c2).2.1 ((H.2.2.2 c1).2.2 c2).2.2.1 (fun c3 => (pn_iinc rfl rfl rfl rfl   (pv_goto rfl (((H.2.2.2 c1).2.2 c2).2.2.2.1 c3)))) (fun c3 => (pv_aload_n rfl rfl   (pv_iload rfl rfl   (pv_aload_n rfl rfl   (pv_aload_n rfl rfl   (match (c_holds (n := l5) (R := R) (t := t) (p := p) (A := A) (X := X) (d := d + 0) (G := G) (j := j) (cc := cc) hp48 hp62 hp63 (((H.2.2.2 c1).2.2 c2).2.2.2.2 c3).1 (((H.2.2.2 c1).2.2 c2).2.2.2.2 c3).2.1 (((H.2.2.2 c1).2.2 c2).2.2.2.2 c3).2.2.1 (((H.2.2.2 c1).2.2 c2).2.2.2.2 c3).2.2.2.1 (((H.2.2.2 c1).2.2 c2).2.2.2.2 c3).2.2.2.2.1 (((H.2.2.2 c1).2.2 c2).2.2.2.2 c3).2.2.2.2.2.1 ) with | ⟨A1v1, e1x38, h4⟩ => pv_virt rfl rfl rfl rfl rfl (oX8_k hp48) rfl rfl rfl e1x38 (pv_if_eq_zo rfl  (fun c5 => (pn_iinc rfl rfl rfl rfl   (pv_goto rfl (((((H.2.2.2 c1).2.2 c2).2.2.2.2 c3).2.2.2.2.2.2 A1v1 h4).1 c5)))) (fun c5 => (pv_iload rfl rfl   (pv_aload_n rfl rfl   (pv_getP rfl rfl (oX8_k hp48) (oX8_4 hp48)   (pv_iload rfl rfl   (pn_iald rfl (oX8_4c hp48) (by decide) (((((H.2.2.2 c1).2.2 c2).2.2.2.2 c3).2.2.2.2.2.2 A1v1 h4).2 c5).1 rfl (pn_iadd rfl   (pv_istore rfl rfl   (pn_iinc rfl rfl rfl rfl   (pv_goto rfl (((((H.2.2.2 c1).2.2 c2).2.2.2.2 c3).2.2.2.2.2.2 A1v1 h4).2 c5).2))))))))))))))))))))))))))))))))
theorem c_sum_p {X : gv_X} {d : Nat} {G : gv_Sh} {A : Nat → Nat → Nat} {j : Nat → Nat → Int64} {cc : gv_Rs} {P : gv_O × gv_S → Prop} {so : Nat} {R : Nat → Nat} {t : Nat} {p : Nat} (hp48 : oX8 G 48) (hp62 : G.2.1 62 = (100, 10)) (hp63 : G.2.1 63 = (100, 32)) (p0 : okW R) (p1 : okLw R) (p2 : p < 8) (p3 : rRu A 48 R) (p4 : sbj A R t p) (p5 : so < 3) (hP : ∀ A1 : Nat → Nat → Nat, (∀ a, a ≠ 63 → A1 a = A a) → P (.inl (some (.int (nI (lsum R t p so)))), (G, (mI A1, j), cc))) : EvP X (d + 2) gvm_76 0 (gv_enter [.ref 48, .int (nI so), .ref 62, .ref 63] 6) [] (G, (mI A, j), cc) P := by
  have r2 := (okW_n p0).2.2.1
  obtain ⟨m, hm⟩ : ∃ m, m = A 48 1 := ⟨_, rfl⟩
  have hh : m ≤ 12 ∧ (∀ n, n < m → okLn R n ∧ rLn A 48 R n) ∧ lsum R t p so = smN R t p so m := by
    unfold lsum
    by_cases z : R 2 = 1
    · have h1 := p1 z
      have h2 := p3.2.2 z
      rw [if_pos z, hm, h2.1]
      exact ⟨h1.1, fun n hn => ⟨h1.2 n hn, h2.2 n hn⟩, rfl⟩
    · have := p3.2.1 (by omega)
      rw [if_neg z, hm, this]
      exact ⟨by omega, fun n hn => absurd hn (by omega), rfl⟩
  obtain ⟨m12, hl, hs⟩ := hh
  rw [hs] at hP
  have Lp : ∀ i k B, k + i = m → (∀ a, a ≠ 63 → B a = A a) → EvP X (d + 2) gvm_76 6 [some (.ref 48), some (.int (nI so)), some (.ref 62), some (.ref 63), some (.int (nI (smN R t p so k))), some (.int (nI k))] [] (G, (mI B, j), cc) P := by
    intro i
    induction i with
    | zero =>
      intro k B hk hf
      obtain rfl : k = m := by omega
      have e48 : B 48 = A 48 := hf 48 (by decide)
      exact w76_6 (R := R) (t := t) (p := p) hp48 hp62 hp63 ⟨by omega, by rw [e48]; omega, fun c1 => hP B hf, fun c1 => absurd c1 (by rw [e48]; omega)⟩
    | succ i ih =>
      intro k B hk hf
      have e48 : B 48 = A 48 := hf 48 (by decide)
      have e49 : B 49 = A 49 := hf 49 (by decide)
      have e50 : B 50 = A 50 := hf 50 (by decide)
      have hlk := hl k (by omega)
      have s1 : A 49 k = R (369 + 4 * k) := hlk.2.1
      have s2 : A 50 k = R (369 + 4 * k + 1) := hlk.2.2.1
      have b1 := hlk.1.1
      have b2 := hlk.1.2.1
      have sl := smN_le (t := t) (p := p) (w := so) (n := k) (fun x hx => (hl x (by omega)).1)
      have rl : rLn B 48 R k := by
        have := hlk.2
        unfold rLn at this ⊢
        rw [hf (48 + 1) (by decide), hf (48 + 2) (by decide), hf (48 + 3) (by decide), hf (48 + 4) (by decide), hf (48 + 5) (by decide)]
        exact this
      have sb : sbj B R t p := by
        unfold sbj
        rw [hf 62 (by decide)]; exact p4
      refine w76_6 (R := R) (t := t) (p := p) hp48 hp62 hp63 ⟨by omega, by rw [e48]; omega, fun c1 => absurd c1 (by rw [e48]; omega), fun c1 => ⟨by omega, fun c2 => absurd c2 (by omega), fun c2 => ⟨by omega, by rw [e49]; omega, by omega, fun c3 => ?_, fun c3 => ⟨p0, p2, by omega, hlk.1, rl, sb, fun C h1 => ⟨fun c5 => ?_, fun c5 => ⟨by omega, ?_⟩⟩⟩⟩⟩⟩
      · rw [e49, s1] at c3
        have := ih (k + 1) B (by omega) hf
        rw [show smN R t p so (k + 1) = smN R t p so k + (if R (369 + 4 * k) = so ∧ hlS R t p k = true then R (369 + 4 * k + 1) else 0) from rfl, if_neg (fun z => c3 z.1)] at this
        exact this
      · have := ih (k + 1) C (by omega) (fun a ha => (h1 a ha).trans (hf a ha))
        rw [show smN R t p so (k + 1) = smN R t p so k + (if R (369 + 4 * k) = so ∧ hlS R t p k = true then R (369 + 4 * k + 1) else 0) from rfl, if_neg (fun z => by rw [c5] at z; exact absurd z.2 (by decide))] at this
        exact this
      · rw [e49, s1] at c3
        have := ih (k + 1) C (by omega) (fun a ha => (h1 a ha).trans (hf a ha))
        rw [show smN R t p so (k + 1) = smN R t p so k + (if R (369 + 4 * k) = so ∧ hlS R t p k = true then R (369 + 4 * k + 1) else 0) from rfl, if_pos ⟨c3, c5⟩] at this
        rw [h1 50 (by decide), e50, s2]
        exact this
  exact w76 hp48 hp62 hp63 (Lp m 0 A (Nat.zero_add _) (fun _ _ => rfl))
theorem c_sum {X : gv_X} {d : Nat} {G : gv_Sh} {A : Nat → Nat → Nat} {j : Nat → Nat → Int64} {cc : gv_Rs} {so : Nat} {R : Nat → Nat} {t : Nat} {p : Nat} (hp48 : oX8 G 48) (hp62 : G.2.1 62 = (100, 10)) (hp63 : G.2.1 63 = (100, 32)) (p0 : okW R) (p1 : okLw R) (p2 : p < 8) (p3 : rRu A 48 R) (p4 : sbj A R t p) (p5 : so < 3) : ∃ A1 : Nat → Nat → Nat, Ev X (d + 2) gvm_76 0 (gv_enter [.ref 48, .int (nI so), .ref 62, .ref 63] 6) [] (G, (mI A, j), cc) (.inl (some (.int (nI (lsum R t p so)))), (G, (mI A1, j), cc)) ∧ (∀ a, a ≠ 63 → A1 a = A a) := by
  obtain ⟨_, h, A1, rfl, hp⟩ := c_sum_p (X := X) (d := d) (G := G) (A := A) (j := j) (cc := cc) (so := so) (R := R) (t := t) (p := p) (P := fun r => ∃ A1 : Nat → Nat → Nat, r = (.inl (some (.int (nI (lsum R t p so)))), (G, (mI A1, j), cc)) ∧ (∀ a, a ≠ 63 → A1 a = A a)) hp48 hp62 hp63 p0 p1 p2 p3 p4 p5 (fun A1 h => ⟨A1, rfl, h⟩)
  exact ⟨A1, h, hp⟩
theorem w93 {X : gv_X} {d : Nat} {G : gv_Sh} {A : Nat → Nat → Nat} {j : Nat → Nat → Int64} {cc : gv_Rs} {P : gv_O × gv_S → Prop} {w : Nat} {p : Nat} (hw : oX10 G w) (H : EvP X (d + 0) gvm_93 4 [some (.ref w), some (.int (nI p)), some (.int (nI 0)), some (.int (nI 0))] [] (G, (mI A, j), cc) P) : EvP X (d + 0) gvm_93 0 (gv_enter [.ref w, .int (nI p)] 4) [] (G, (mI A, j), cc) P :=
  (pn_iconst rfl rfl   (pv_istore_n rfl rfl   (pn_iconst rfl rfl   (pv_istore_n rfl rfl   H))))
theorem w93_4 {X : gv_X} {d : Nat} {G : gv_Sh} {A : Nat → Nat → Nat} {j : Nat → Nat → Int64} {cc : gv_Rs} {P : gv_O × gv_S → Prop} {w : Nat} {p : Nat} {l2 : Nat} {l3 : Nat} (hw : oX10 G w) (H : (l3 < 2147483648) ∧ (((A w 2) < 2147483648) ∧ ((((A w 2) ≤ l3) → P (.inl (some (.int (nI l2))), (G, (mI A, j), cc))) ∧ ((l3 < (A w 2)) → (l3 < 2147483648) ∧ (((10 ≤ l3) → P (.inl (some (.int (nI l2))), (G, (mI A, j), cc))) ∧ ((l3 < 10) → (l3 < 10) ∧ (((A (w + 7) l3) < 4294967296) ∧ ((p < 4294967296) ∧ (((¬ (A (w + 7) l3) = p) → EvP X (d + 0) gvm_93 4 [some (.ref w), some (.int (nI p)), some (.int (nI l2)), some (.int (nI (l3 + 1)))] [] (G, (mI A, j), cc) P) ∧ (((A (w + 7) l3) = p) → EvP X (d + 0) gvm_93 4 [some (.ref w), some (.int (nI p)), some (.int (nI (l2 + 1))), some (.int (nI (l3 + 1)))] [] (G, (mI A, j), cc) P)))))))))) : EvP X (d + 0) gvm_93 4 [some (.ref w), some (.int (nI p)), some (.int (nI l2)), some (.int (nI l3))] [] (G, (mI A, j), cc) P :=
  (pv_iload_n rfl rfl   (pv_aload_n rfl rfl   (pn_getI rfl rfl (oX10_k hw) rfl   (pn_ic_ge rfl H.1 H.2.1 (fun c1 => (pv_iload_n rfl rfl   (pv_ireti rfl rfl (H.2.2.1 c1)))) (fun c1 => (pv_iload_n rfl rfl   (pn_bipush rfl rfl   (pn_ic_ge rfl (H.2.2.2 c1).1 (by decide) (fun c2 => (pv_iload_n rfl rfl   (pv_ireti rfl rfl ((H.2.2.2 c1).2.1 c2)))) (fun c2 => (pv_aload_n rfl rfl   (pv_getP rfl rfl (oX10_k hw) (oX10_1 hw)   (pv_iload_n rfl rfl   (pn_iald rfl (oX10_1c hw) (by decide) ((H.2.2.2 c1).2.2 c2).1 rfl (pv_iload_n rfl rfl   (pn_ic_ne rfl ((H.2.2.2 c1).2.2 c2).2.1 ((H.2.2.2 c1).2.2 c2).2.2.1 (fun c3 => (pn_iinc rfl rfl rfl rfl   (pv_goto rfl (((H.2.2.2 c1).2.2 c2).2.2.2.1 c3)))) (fun c3 => (pn_iinc rfl rfl rfl rfl   (pn_iinc rfl rfl rfl rfl   (pv_goto rfl (((H.2.2.2 c1).2.2 c2).2.2.2.2 c3))))))))))))))))))))
theorem c_usesOf_p {X : gv_X} {d : Nat} {G : gv_Sh} {A : Nat → Nat → Nat} {j : Nat → Nat → Int64} {cc : gv_Rs} {P : gv_O × gv_S → Prop} {w : Nat} {p : Nat} (hw : oX10 G w) (p0 : p < 4294967296) (p1 : A w 2 ≤ 10) (p2 : ∀ k, k < A w 2 → A (w + 7) k < 4294967296) (hP : P (.inl (some (.int (nI (cntN (fun k => decide (A (w + 7) k = p)) (A w 2))))), (G, (mI A, j), cc))) : EvP X (d + 0) gvm_93 0 (gv_enter [.ref w, .int (nI p)] 4) [] (G, (mI A, j), cc) P := by
  have Lp : ∀ i k, k + i = A w 2 → EvP X (d + 0) gvm_93 4 [some (.ref w), some (.int (nI p)), some (.int (nI (cntN (fun k => decide (A (w + 7) k = p)) k))), some (.int (nI k))] [] (G, (mI A, j), cc) P := by
    intro i
    induction i with
    | zero =>
      intro k hk
      obtain rfl : k = A w 2 := by omega
      exact w93_4 hw ⟨by omega, by omega, fun c1 => hP, fun c1 => absurd c1 (by omega)⟩
    | succ i ih =>
      intro k hk
      have b := p2 k (by omega)
      have := ih (k + 1) (by omega)
      rw [show cntN (fun k => decide (A (w + 7) k = p)) (k + 1) = cntN (fun k => decide (A (w + 7) k = p)) k + (decide (A (w + 7) k = p)).toNat from rfl] at this
      refine w93_4 hw ⟨by omega, by omega, fun c1 => absurd c1 (by omega), fun c1 => ⟨by omega, fun c2 => absurd c2 (by omega), fun c2 => ⟨by omega, by omega, by omega, fun c3 => ?_, fun c3 => ?_⟩⟩⟩
      · rw [decide_eq_false c3] at this; exact this
      · rw [decide_eq_true c3] at this; exact this
  exact w93 hw (Lp (A w 2) 0 (Nat.zero_add _))
theorem c_usesOf {X : gv_X} {d : Nat} {G : gv_Sh} {A : Nat → Nat → Nat} {j : Nat → Nat → Int64} {cc : gv_Rs} {w : Nat} {p : Nat} (hw : oX10 G w) (p0 : p < 4294967296) (p1 : A w 2 ≤ 10) (p2 : ∀ k, k < A w 2 → A (w + 7) k < 4294967296) : Ev X (d + 0) gvm_93 0 (gv_enter [.ref w, .int (nI p)] 4) [] (G, (mI A, j), cc) (.inl (some (.int (nI (cntN (fun k => decide (A (w + 7) k = p)) (A w 2))))), (G, (mI A, j), cc)) := evp_det (c_usesOf_p hw p0 p1 p2 rfl)
