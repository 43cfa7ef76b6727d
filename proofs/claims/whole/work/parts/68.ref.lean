/-! cells taken by turns -/
def enc (x : Int) : Nat := (x + 4294967296).toNat % 4294967296
def smax (a b : Nat) : Nat := if sg b ≤ sg a then a else b
/-- how much more who takes first has of n cells from f on -/
def moI (c : Nat → Nat) : Nat → Nat → Int
  | 0, _ => 0
  | n + 1, f => max ((c f : Int) - moI c n (f + 1)) ((c (f + n) : Int) - moI c n f)
theorem moI_s (c : Nat → Nat) (n f : Nat) : moI c (n + 1) f = max ((c f : Int) - moI c n (f + 1)) ((c (f + n) : Int) - moI c n f) := rfl
theorem moI_b {c : Nat → Nat} (h : ∀ k, k < 8 → c k ≤ 3) : ∀ {n f : Nat}, f + n ≤ 8 → - (3 * n : Int) ≤ moI c n f ∧ moI c n f ≤ 3 * n
  | 0, _, _ => by unfold moI; omega
  | n + 1, f, hf => by
    unfold moI
    have a := moI_b h (n := n) (f := f + 1) (by omega)
    have b := moI_b h (n := n) (f := f) (by omega)
    have c1 := h f (by omega)
    have c2 := h (f + n) (by omega)
    omega
theorem enc_sub {a : Nat} {y : Int} (h : a ≤ 3) (h1 : -100 ≤ y) (h2 : y ≤ 100) : (a + 4294967296 - enc y) % 4294967296 = enc ((a : Int) - y) := by
  unfold enc
  omega
theorem enc_max {x y : Int} (h1 : -100 ≤ y) (h2 : y ≤ 100) (h3 : -100 ≤ x) (h4 : x ≤ 100) : smax (enc x) (enc y) = enc (max x y) := by
  unfold smax sg enc
  split <;> omega
theorem enc_lt (x : Int) : enc x < 4294967296 := Nat.mod_lt _ (by decide)
theorem enc_sg {x : Int} (h3 : -100 ≤ x) (h4 : x ≤ 100) : ((sg (enc x) : Nat) : Int) = x + 2147483648 := by
  unfold sg enc
  omega
def ceF (R : Nat → Nat) : Nat → Nat := fun k => R (22 + k)
def spSide (R : Nat → Nat) : Nat := if (ceF R 7 : Int) - moI (ceF R) 7 0 ≤ (ceF R 0 : Int) - moI (ceF R) 7 1 then 0 else 1
theorem v389 {X : gv_X} {d : Nat} {G : gv_Sh} {A : Nat → Nat → Nat} {j : Nat → Nat → Int64} {cc : gv_Rs} {P : gv_O × gv_S → Prop} {a : Nat} {b : Nat}  (H : (((a + 2147483648) % 4294967296 < (b + 2147483648) % 4294967296) → P (.inl (some (.int (nI b))), (G, (mI A, j), cc))) ∧ (((b + 2147483648) % 4294967296 ≤ (a + 2147483648) % 4294967296) → P (.inl (some (.int (nI a))), (G, (mI A, j), cc)))) : EvP X (d + 0) gvm_389 0 (gv_enter [.int (nI a), .int (nI b)] 2) [] (G, (mI A, j), cc) P :=
  (pv_iload_n rfl rfl   (pv_iload_n rfl rfl   (pn_ic_ltw rfl  (fun c1 => (pv_iload_n rfl rfl   (pv_ireti rfl rfl (H.1 c1)))) (fun c1 => (pv_iload_n rfl rfl   (pv_goto rfl (pv_ireti rfl rfl (H.2 c1))))))))
theorem k_maxs_p {X : gv_X} {d : Nat} {G : gv_Sh} {A : Nat → Nat → Nat} {j : Nat → Nat → Int64} {cc : gv_Rs} {P : gv_O × gv_S → Prop} {a : Nat} {b : Nat}   (hP : P (.inl (some (.int (nI (smax a b)))), (G, (mI A, j), cc))) : EvP X (d + 0) gvm_389 0 (gv_enter [.int (nI a), .int (nI b)] 2) [] (G, (mI A, j), cc) P := by
  refine v389   ⟨fun c1 => ?_, fun c1 => ?_⟩
  · exact qn hP (by unfold smax sg; rw [if_neg (by omega)])
  · exact qn hP (by unfold smax sg; rw [if_pos (by omega)])
theorem k_maxs {X : gv_X} {d : Nat} {G : gv_Sh} {A : Nat → Nat → Nat} {j : Nat → Nat → Int64} {cc : gv_Rs} {a : Nat} {b : Nat}   : Ev X (d + 0) gvm_389 0 (gv_enter [.int (nI a), .int (nI b)] 2) [] (G, (mI A, j), cc) (.inl (some (.int (nI (smax a b)))), (G, (mI A, j), cc)) := evp_det (k_maxs_p   rfl)
theorem w327 {X : gv_X} {d : Nat} {G : gv_Sh} {A : Nat → Nat → Nat} {j : Nat → Nat → Int64} {cc : gv_Rs} {P : gv_O × gv_S → Prop} {f : Nat} {t : Nat}  (H : P (.inl (some (.int (nI ((9 * f) + t)))), (G, (mI A, j), cc))) : EvP X (d + 0) gvm_327 0 (gv_enter [.int (nI f), .int (nI t)] 2) [] (G, (mI A, j), cc) P :=
  (pn_bipush rfl rfl   (pv_iload_n rfl rfl   (pn_imul rfl   (pv_iload_n rfl rfl   (pn_iadd rfl   (pv_ireti rfl rfl H))))))
theorem r_moreAt_p {X : gv_X} {d : Nat} {G : gv_Sh} {A : Nat → Nat → Nat} {j : Nat → Nat → Int64} {cc : gv_Rs} {P : gv_O × gv_S → Prop} {f : Nat} {t : Nat}   (hP : P (.inl (some (.int (nI (9 * f + t)))), (G, (mI A, j), cc))) : EvP X (d + 0) gvm_327 0 (gv_enter [.int (nI f), .int (nI t)] 2) [] (G, (mI A, j), cc) P := by
  refine w327   ?_
  exact hP
theorem r_moreAt {X : gv_X} {d : Nat} {G : gv_Sh} {A : Nat → Nat → Nat} {j : Nat → Nat → Int64} {cc : gv_Rs} {f : Nat} {t : Nat}   : Ev X (d + 0) gvm_327 0 (gv_enter [.int (nI f), .int (nI t)] 2) [] (G, (mI A, j), cc) (.inl (some (.int (nI (9 * f + t)))), (G, (mI A, j), cc)) := evp_det (r_moreAt_p   rfl)
theorem w328 {X : gv_X} {d : Nat} {G : gv_Sh} {A : Nat → Nat → Nat} {j : Nat → Nat → Int64} {cc : gv_Rs} {P : gv_O × gv_S → Prop} {f : Nat} {t : Nat} (hp263 : oX12 G 263) (H : ((22 + f) < 2066) ∧ (((9 * (f + 1) + t) < 81) ∧ (((A 276 (9 * (f + 1) + t)) ≤ 4294967296) ∧ (P (.inl (some (.int (nI (((A 264 (22 + f)) + 4294967296 - (A 276 (9 * (f + 1) + t))) % 4294967296)))), (G, (mI A, j), cc)))))) : EvP X (d + 1) gvm_328 0 (gv_enter [.ref 263, .int (nI f), .int (nI t)] 3) [] (G, (mI A, j), cc) P :=
  (pv_aload_n rfl rfl   (pv_getP rfl rfl (oX12_k hp263) (oX12_1 hp263)   (pn_bipush rfl rfl   (pv_iload_n rfl rfl   (pn_iadd rfl   (pn_iald rfl (oX12_1c hp263) (by decide) H.1 rfl (pv_aload_n rfl rfl   (pv_getP rfl rfl (oX12_k hp263) (oX12_29 hp263)   (pv_iload_n rfl rfl   (pn_iconst rfl rfl   (pn_iadd rfl   (pv_iload_n rfl rfl   (pv_stat rfl rfl rfl rfl rfl rfl rfl rfl (r_moreAt (f := (f + 1)) (t := t) (A := A)  ) (pn_iald rfl (oX12_29c hp263) (by decide) H.2.1 rfl (pn_isubw rfl H.2.2.1  (pv_ireti rfl rfl H.2.2.2))))))))))))))))
theorem r_leftFirst_p {X : gv_X} {d : Nat} {G : gv_Sh} {A : Nat → Nat → Nat} {j : Nat → Nat → Int64} {cc : gv_Rs} {P : gv_O × gv_S → Prop} {f : Nat} {t : Nat} (hp263 : oX12 G 263) (p0 : f < 8) (p1 : t ≤ 8) (p2 : A 276 (9 * (f + 1) + t) ≤ 4294967296) (hP : P (.inl (some (.int (nI ((A 264 (22 + f) + 4294967296 - A 276 (9 * (f + 1) + t)) % 4294967296)))), (G, (mI A, j), cc))) : EvP X (d + 1) gvm_328 0 (gv_enter [.ref 263, .int (nI f), .int (nI t)] 3) [] (G, (mI A, j), cc) P := by
  refine w328 hp263  ⟨by (first | omega | assumption), ⟨by (first | omega | assumption), ⟨by (first | omega | assumption), ?_⟩⟩⟩
  exact hP
theorem r_leftFirst {X : gv_X} {d : Nat} {G : gv_Sh} {A : Nat → Nat → Nat} {j : Nat → Nat → Int64} {cc : gv_Rs} {f : Nat} {t : Nat} (hp263 : oX12 G 263) (p0 : f < 8) (p1 : t ≤ 8) (p2 : A 276 (9 * (f + 1) + t) ≤ 4294967296) : Ev X (d + 1) gvm_328 0 (gv_enter [.ref 263, .int (nI f), .int (nI t)] 3) [] (G, (mI A, j), cc) (.inl (some (.int (nI ((A 264 (22 + f) + 4294967296 - A 276 (9 * (f + 1) + t)) % 4294967296)))), (G, (mI A, j), cc)) := evp_det (r_leftFirst_p hp263 p0 p1 p2 rfl)
theorem w329 {X : gv_X} {d : Nat} {G : gv_Sh} {A : Nat → Nat → Nat} {j : Nat → Nat → Int64} {cc : gv_Rs} {P : gv_O × gv_S → Prop} {f : Nat} {t : Nat} (hp263 : oX12 G 263) (H : (1 ≤ (22 + t)) ∧ ((((22 + t) - 1) < 2066) ∧ ((1 ≤ t) ∧ (((9 * f + (t - 1)) < 81) ∧ (((A 276 (9 * f + (t - 1))) ≤ 4294967296) ∧ (P (.inl (some (.int (nI (((A 264 ((22 + t) - 1)) + 4294967296 - (A 276 (9 * f + (t - 1)))) % 4294967296)))), (G, (mI A, j), cc)))))))) : EvP X (d + 1) gvm_329 0 (gv_enter [.ref 263, .int (nI f), .int (nI t)] 3) [] (G, (mI A, j), cc) P :=
  (pv_aload_n rfl rfl   (pv_getP rfl rfl (oX12_k hp263) (oX12_1 hp263)   (pn_bipush rfl rfl   (pv_iload_n rfl rfl   (pn_iadd rfl   (pn_iconst rfl rfl   (pn_isub rfl H.1  (pn_iald rfl (oX12_1c hp263) (by decide) H.2.1 rfl (pv_aload_n rfl rfl   (pv_getP rfl rfl (oX12_k hp263) (oX12_29 hp263)   (pv_iload_n rfl rfl   (pv_iload_n rfl rfl   (pn_iconst rfl rfl   (pn_isub rfl H.2.2.1  (pv_stat rfl rfl rfl rfl rfl rfl rfl rfl (r_moreAt (f := f) (t := (t - 1)) (A := A)  ) (pn_iald rfl (oX12_29c hp263) (by decide) H.2.2.2.1 rfl (pn_isubw rfl H.2.2.2.2.1  (pv_ireti rfl rfl H.2.2.2.2.2))))))))))))))))))
theorem r_rightFirst_p {X : gv_X} {d : Nat} {G : gv_Sh} {A : Nat → Nat → Nat} {j : Nat → Nat → Int64} {cc : gv_Rs} {P : gv_O × gv_S → Prop} {f : Nat} {t : Nat} (hp263 : oX12 G 263) (p0 : f ≤ 8) (p1 : 1 ≤ t ∧ t ≤ 8) (p2 : A 276 (9 * f + (t - 1)) ≤ 4294967296) (hP : P (.inl (some (.int (nI ((A 264 (22 + t - 1) + 4294967296 - A 276 (9 * f + (t - 1))) % 4294967296)))), (G, (mI A, j), cc))) : EvP X (d + 1) gvm_329 0 (gv_enter [.ref 263, .int (nI f), .int (nI t)] 3) [] (G, (mI A, j), cc) P := by
  refine w329 hp263  ⟨by (first | omega | assumption), ⟨by (first | omega | assumption), ⟨by (first | omega | assumption), ⟨by (first | omega | assumption), ⟨by (first | omega | assumption), ?_⟩⟩⟩⟩⟩
  exact hP
theorem r_rightFirst {X : gv_X} {d : Nat} {G : gv_Sh} {A : Nat → Nat → Nat} {j : Nat → Nat → Int64} {cc : gv_Rs} {f : Nat} {t : Nat} (hp263 : oX12 G 263) (p0 : f ≤ 8) (p1 : 1 ≤ t ∧ t ≤ 8) (p2 : A 276 (9 * f + (t - 1)) ≤ 4294967296) : Ev X (d + 1) gvm_329 0 (gv_enter [.ref 263, .int (nI f), .int (nI t)] 3) [] (G, (mI A, j), cc) (.inl (some (.int (nI ((A 264 (22 + t - 1) + 4294967296 - A 276 (9 * f + (t - 1))) % 4294967296)))), (G, (mI A, j), cc)) := evp_det (r_rightFirst_p hp263 p0 p1 p2 rfl)
theorem w330 {X : gv_X} {d : Nat} {G : gv_Sh} {A : Nat → Nat → Nat} {j : Nat → Nat → Int64} {cc : gv_Rs} {P : gv_O × gv_S → Prop}  (hp263 : oX12 G 263) (H : EvP X (d + 2) gvm_330 3 [some (.ref 263), some (.int (nI 8)), none] [] (G, (mI A, j), cc) P) : EvP X (d + 2) gvm_330 0 (gv_enter [.ref 263] 3) [] (G, (mI A, j), cc) P :=
  (pn_bipush rfl rfl   (pv_istore_n rfl rfl   H))
theorem w330_3 {X : gv_X} {d : Nat} {G : gv_Sh} {A : Nat → Nat → Nat} {j : Nat → Nat → Int64} {cc : gv_Rs} {P : gv_O × gv_S → Prop} {l1 : Nat} {l2 : Option Value} (hp263 : oX12 G 263) (H : (l1 < 4294967296) ∧ (((2147483648 ≤ l1) → P (.inl none, (G, (mI A, j), cc))) ∧ ((l1 < 2147483648) → ((9 * l1 + l1) < 81) ∧ (EvP X (d + 2) gvm_330 22 [some (.ref 263), some (.int (nI l1)), some (.int (nI (l1 + 1)))] [] (G, (mI (gu A 276 (9 * l1 + l1) 0), j), cc) P)))) : EvP X (d + 2) gvm_330 3 [some (.ref 263), some (.int (nI l1)), l2] [] (G, (mI A, j), cc) P :=
  (pv_iload_n rfl rfl   (pn_if_lt rfl H.1 (fun c1 => (pv_vret rfl (H.2.1 c1))) (fun c1 => (pv_aload_n rfl rfl   (pv_getP rfl rfl (oX12_k hp263) (oX12_29 hp263)   (pv_iload_n rfl rfl   (pv_iload_n rfl rfl   (pv_stat rfl rfl rfl rfl rfl rfl rfl rfl (r_moreAt (f := l1) (t := l1) (A := A)  ) (pn_iconst rfl rfl   (pn_iast rfl (oX12_29c hp263) (by decide) (H.2.2 c1).1  (pv_iload_n rfl rfl   (pn_iconst rfl rfl   (pn_iadd rfl   (pv_istore_n rfl rfl   (H.2.2 c1).2))))))))))))))
theorem w330_22 {X : gv_X} {d : Nat} {G : gv_Sh} {A : Nat → Nat → Nat} {j : Nat → Nat → Int64} {cc : gv_Rs} {P : gv_O × gv_S → Prop} {l1 : Nat} {l2 : Nat} (hp263 : oX12 G 263) (H : (l2 < 2147483648) ∧ (((8 < l2) → EvP X (d + 2) gvm_330 3 [some (.ref 263), some (.int (nI ((l1 + 4294967296 - 1) % 4294967296))), some (.int (nI l2))] [] (G, (mI A, j), cc) P) ∧ ((l2 ≤ 8) → (l1 < 8) ∧ ((l2 ≤ 8) ∧ ((A 276 (9 * (l1 + 1) + l2) ≤ 4294967296) ∧ ((l1 ≤ 8) ∧ ((1 ≤ l2 ∧ l2 ≤ 8) ∧ ((A 276 (9 * l1 + (l2 - 1)) ≤ 4294967296) ∧ (((9 * l1 + l2) < 81) ∧ (EvP X (d + 2) gvm_330 22 [some (.ref 263), some (.int (nI l1)), some (.int (nI (l2 + 1)))] [] (G, (mI (gu A 276 (9 * l1 + l2) (smax ((A 264 (22 + l1) + 4294967296 - A 276 (9 * (l1 + 1) + l2)) % 4294967296) ((A 264 (22 + l2 - 1) + 4294967296 - A 276 (9 * l1 + (l2 - 1))) % 4294967296))), j), cc) P)))))))))) : EvP X (d + 2) gvm_330 22 [some (.ref 263), some (.int (nI l1)), some (.int (nI l2))] [] (G, (mI A, j), cc) P :=
  (pv_iload_n rfl rfl   (pn_bipush rfl rfl   (pn_ic_gt rfl H.1 (by decide) (fun c1 => (pn_idecw rfl (by decide) (by decide) rfl rfl (pv_goto rfl (H.2.1 c1)))) (fun c1 => (pv_aload_n rfl rfl   (pv_getP rfl rfl (oX12_k hp263) (oX12_29 hp263)   (pv_iload_n rfl rfl   (pv_iload_n rfl rfl   (pv_stat rfl rfl rfl rfl rfl rfl rfl rfl (r_moreAt (f := l1) (t := l2) (A := A)  ) (pv_aload_n rfl rfl   (pv_iload_n rfl rfl   (pv_iload_n rfl rfl   (pv_virt rfl rfl rfl rfl rfl (oX12_k hp263) rfl rfl rfl (r_leftFirst (f := l1) (t := l2) (A := A) hp263 (H.2.2 c1).1 (H.2.2 c1).2.1 (H.2.2 c1).2.2.1 ) (pv_aload_n rfl rfl   (pv_iload_n rfl rfl   (pv_iload_n rfl rfl   (pv_virt rfl rfl rfl rfl rfl (oX12_k hp263) rfl rfl rfl (r_rightFirst (f := l1) (t := l2) (A := A) hp263 (H.2.2 c1).2.2.2.1 (H.2.2 c1).2.2.2.2.1 (H.2.2 c1).2.2.2.2.2.1 ) (pv_stat rfl rfl rfl rfl rfl rfl rfl rfl (k_maxs (a := ((A 264 (22 + l1) + 4294967296 - A 276 (9 * (l1 + 1) + l2)) % 4294967296)) (b := ((A 264 (22 + l2 - 1) + 4294967296 - A 276 (9 * l1 + (l2 - 1))) % 4294967296)) (A := A)  ) (pn_iast rfl (oX12_29c hp263) (by decide) (H.2.2 c1).2.2.2.2.2.2.1  (pn_iinc rfl rfl rfl rfl   (pv_goto rfl (H.2.2 c1).2.2.2.2.2.2.2)))))))))))))))))))))
theorem r_laysMore_p {X : gv_X} {d : Nat} {G : gv_Sh} {A : Nat → Nat → Nat} {j : Nat → Nat → Int64} {cc : gv_Rs} {P : gv_O × gv_S → Prop}  (hp263 : oX12 G 263) (p0 : okW (A 264)) (hP : ∀ A1 : Nat → Nat → Nat, (∀ q, q ≠ 276 → A1 q = A q) ∧ (∀ a b, a ≤ b → b ≤ 8 → A1 276 (9 * a + b) = enc (moI (ceF (A 264)) (b - a) a)) → P (.inl none, (G, (mI A1, j), cc))) : EvP X (d + 2) gvm_330 0 (gv_enter [.ref 263] 3) [] (G, (mI A, j), cc) P := by
  have hc : ∀ k, k < 8 → (ceF (A 264)) k ≤ 3 := fun k hk => okW_c p0 hk
  have Xx : ∀ B l2, (∀ q, q ≠ 276 → B q = A q) → (∀ a b, a ≤ b → b ≤ 8 → True → B 276 (9 * a + b) = enc (moI (ceF (A 264)) (b - a) a)) → EvP X (d + 2) gvm_330 3 [some (.ref 263), some (.int (nI 4294967295)), l2] [] (G, (mI B, j), cc) P := by
    intro B l2 b1 b2
    exact w330_3 hp263 ⟨by decide, fun c1 => hP B ⟨b1, fun a b h1 h2 => b2 a b h1 h2 trivial⟩, fun c1 => absurd c1 (by decide)⟩
  have I : ∀ f, f ≤ 8 → (∀ B l2, (∀ q, q ≠ 276 → B q = A q) → (∀ a b, a ≤ b → b ≤ 8 → f ≤ a → B 276 (9 * a + b) = enc (moI (ceF (A 264)) (b - a) a)) → EvP X (d + 2) gvm_330 3 [some (.ref 263), some (.int (nI ((f + 4294967296 - 1) % 4294967296))), l2] [] (G, (mI B, j), cc) P) → ∀ i t B, i + t = 9 → f < t → (∀ q, q ≠ 276 → B q = A q) → (∀ a b, a ≤ b → b ≤ 8 → (f < a ∨ (a = f ∧ b < t)) → B 276 (9 * a + b) = enc (moI (ceF (A 264)) (b - a) a)) → EvP X (d + 2) gvm_330 22 [some (.ref 263), some (.int (nI f)), some (.int (nI t))] [] (G, (mI B, j), cc) P := by
    intro f hf hout i
    induction i with
    | zero =>
      intro t B ht hft b1 b2
      refine w330_22 hp263 ⟨by omega, fun c1 => hout B _ b1 (fun a b h1 h2 h3 => b2 a b h1 h2 (by omega)), fun c1 => by omega⟩
    | succ i ih =>
      intro t B ht hft b1 b2
      have r1 := b2 (f + 1) t (by omega) (by omega) (by omega)
      have r2 := b2 f (t - 1) (by omega) (by omega) (by omega)
      have m1 := moI_b hc (n := t - (f + 1)) (f := f + 1) (by omega)
      have m2 := moI_b hc (n := t - 1 - f) (f := f) (by omega)
      have l1 := enc_lt (moI (ceF (A 264)) (t - (f + 1)) (f + 1))
      have l2 := enc_lt (moI (ceF (A 264)) (t - 1 - f) f)
      have e4 : B 264 = A 264 := b1 264 (by decide)
      have k1 := hc f (by omega)
      have k2 := hc (t - 1) (by omega)
      have s1 : (B 264 (22 + f) + 4294967296 - B 276 (9 * (f + 1) + t)) % 4294967296 = enc ((((ceF (A 264)) f : Nat) : Int) - moI (ceF (A 264)) (t - (f + 1)) (f + 1)) := by
        rw [r1, e4]; exact enc_sub k1 (by omega) (by omega)
      have s2 : (B 264 (22 + t - 1) + 4294967296 - B 276 (9 * f + (t - 1))) % 4294967296 = enc ((((ceF (A 264)) (t - 1) : Nat) : Int) - moI (ceF (A 264)) (t - 1 - f) f) := by
        rw [r2, e4, show 22 + t - 1 = 22 + (t - 1) by omega]; exact enc_sub k2 (by omega) (by omega)
      refine w330_22 hp263 ⟨by omega, fun c1 => by omega, fun c1 => ⟨by omega, by omega, by rw [r1]; omega, by omega, by omega, by rw [r2]; omega, by omega, ?_⟩⟩
      rw [s1, s2, enc_max (by omega) (by omega) (by omega) (by omega)]
      refine ih (t + 1) _ (by omega) (by omega) (fun q hq => (gu_ro hq).trans (b1 q hq)) (fun a b h1 h2 h3 => ?_)
      by_cases hab : a = f ∧ b = t
      · obtain ⟨rfl, rfl⟩ := hab
        rw [gu_hit]
        congr 1
        have hn : b - a = (b - 1 - a) + 1 := by omega
        rw [hn, moI_s, show b - (a + 1) = b - 1 - a by omega, show a + (b - 1 - a) = b - 1 by omega]
      · rw [gu_k (by omega) rfl]
        exact b2 a b h1 h2 (by omega)
  have st : ∀ f, f ≤ 8 → (∀ B l2, (∀ q, q ≠ 276 → B q = A q) → (∀ a b, a ≤ b → b ≤ 8 → f ≤ a → B 276 (9 * a + b) = enc (moI (ceF (A 264)) (b - a) a)) → EvP X (d + 2) gvm_330 3 [some (.ref 263), some (.int (nI ((f + 4294967296 - 1) % 4294967296))), l2] [] (G, (mI B, j), cc) P) → ∀ B l2, (∀ q, q ≠ 276 → B q = A q) → (∀ a b, a ≤ b → b ≤ 8 → f < a → B 276 (9 * a + b) = enc (moI (ceF (A 264)) (b - a) a)) → EvP X (d + 2) gvm_330 3 [some (.ref 263), some (.int (nI f)), l2] [] (G, (mI B, j), cc) P := by
    intro f hf hout B l2 b1 b2
    refine w330_3 hp263 ⟨by omega, fun c1 => by omega, fun c1 => ⟨by omega, I f hf hout (8 - f) (f + 1) _ (by omega) (by omega) (fun q hq => (gu_ro hq).trans (b1 q hq)) (fun a b h1 h2 h3 => ?_)⟩⟩
    by_cases hab : a = f ∧ b = f
    · obtain ⟨rfl, rfl⟩ := hab
      rw [gu_hit, Nat.sub_self]
      show 0 = enc 0
      decide
    · rw [gu_k (by omega) rfl]
      exact b2 a b h1 h2 (by omega)
  have O : ∀ f, f ≤ 8 → ∀ B l2, (∀ q, q ≠ 276 → B q = A q) → (∀ a b, a ≤ b → b ≤ 8 → f < a → B 276 (9 * a + b) = enc (moI (ceF (A 264)) (b - a) a)) → EvP X (d + 2) gvm_330 3 [some (.ref 263), some (.int (nI f)), l2] [] (G, (mI B, j), cc) P := by
    intro f
    induction f with
    | zero =>
      intro hf
      exact st 0 hf (fun B l2 b1 b2 => Xx B l2 b1 (fun a b h1 h2 _ => b2 a b h1 h2 (by omega)))
    | succ f ih =>
      intro hf
      refine st (f + 1) hf (fun B l2 b1 b2 => ?_)
      rw [show (f + 1 + 4294967296 - 1) % 4294967296 = f by omega]
      exact ih (by omega) B l2 b1 (fun a b h1 h2 h3 => b2 a b h1 h2 (by omega))
  exact w330 hp263 (O 8 (by omega) A none (fun _ _ => rfl) (fun a b h1 h2 h3 => by omega))
theorem r_laysMore {X : gv_X} {d : Nat} {G : gv_Sh} {A : Nat → Nat → Nat} {j : Nat → Nat → Int64} {cc : gv_Rs}  (hp263 : oX12 G 263) (p0 : okW (A 264)) : ∃ A1 : Nat → Nat → Nat, Ev X (d + 2) gvm_330 0 (gv_enter [.ref 263] 3) [] (G, (mI A, j), cc) (.inl none, (G, (mI A1, j), cc)) ∧ (∀ q, q ≠ 276 → A1 q = A q) ∧ (∀ a b, a ≤ b → b ≤ 8 → A1 276 (9 * a + b) = enc (moI (ceF (A 264)) (b - a) a)) := by
  obtain ⟨_, h, A1, rfl, hp⟩ := r_laysMore_p (X := X) (d := d) (G := G) (A := A) (j := j) (cc := cc)  (P := fun r => ∃ A1 : Nat → Nat → Nat, r = (.inl none, (G, (mI A1, j), cc)) ∧ (∀ q, q ≠ 276 → A1 q = A q) ∧ (∀ a b, a ≤ b → b ≤ 8 → A1 276 (9 * a + b) = enc (moI (ceF (A 264)) (b - a) a))) hp263 p0 (fun A1 h => ⟨A1, rfl, h⟩)
  exact ⟨A1, h, hp⟩
theorem w331 {X : gv_X} {d : Nat} {G : gv_Sh} {A : Nat → Nat → Nat} {j : Nat → Nat → Int64} {cc : gv_Rs} {P : gv_O × gv_S → Prop}  (hp263 : oX12 G 263) (H : (okW (A 264)) ∧ ((∀ A11 : Nat → Nat → Nat, ((∀ q, q ≠ 276 → A11 q = (gu A 263 0 0) q) ∧ (∀ a b, a ≤ b → b ≤ 8 → A11 276 (9 * a + b) = enc (moI (ceF (A 264)) (b - a) a))) → ((9 * 0 + 8) < 81) ∧ (P (.inl (some (.int (nI (A11 276 (9 * 0 + 8))))), (G, (mI A11, j), cc)))))) : EvP X (d + 3) gvm_331 0 (gv_enter [.ref 263] 1) [] (G, (mI A, j), cc) P :=
  (pv_aload_n rfl rfl   (pn_iconst rfl rfl   (pn_putI rfl rfl (oX12_k hp263)   (pv_aload_n rfl rfl   (match (r_laysMore (A := (gu A 263 0 0)) (X := X) (d := d + 0) (G := G) (j := j) (cc := cc) hp263 H.1 ) with | ⟨A11, e2x6, h1⟩ => pv_virt rfl rfl rfl rfl rfl (oX12_k hp263) rfl rfl rfl e2x6 (pv_aload_n rfl rfl   (pv_getP rfl rfl (oX12_k hp263) (oX12_29 hp263)   (pn_iconst rfl rfl   (pn_bipush rfl rfl   (pv_stat rfl rfl rfl rfl rfl rfl rfl rfl (r_moreAt (f := 0) (t := 8) (A := A11)  ) (pn_iald rfl (oX12_29c hp263) (by decide) (H.2 A11 h1).1 rfl (pv_ireti rfl rfl (H.2 A11 h1).2))))))))))))
theorem r_lead_p {X : gv_X} {d : Nat} {G : gv_Sh} {A : Nat → Nat → Nat} {j : Nat → Nat → Int64} {cc : gv_Rs} {P : gv_O × gv_S → Prop}  (hp263 : oX12 G 263) (p0 : okW (A 264)) (p1 : TrJ A j) (hP : ∀ A1 : Nat → Nat → Nat, (frQ A A1) ∧ (TrJ A1 j) ∧ (A1 263 0 = 0) → P (.inl (some (.int (nI (enc (moI (ceF (A 264)) 8 0))))), (G, (mI A1, j), cc))) : EvP X (d + 3) gvm_331 0 (gv_enter [.ref 263] 1) [] (G, (mI A, j), cc) P := by
  refine w331 hp263  ⟨by (first | omega | assumption), (fun A11 h1 => ⟨by (first | omega | assumption), ?_⟩)⟩
  obtain ⟨g1, g2⟩ := h1
  exact qn (hP _ ⟨⟨fun q a => (g1 q (by omega)).trans (gu_ro (by omega)), fun k a => by rw [g1 263 (by decide)]; exact gu_k (by omega) rfl⟩, TrJ_of p1 ((g1 273 (by decide)).trans rfl) rfl, by rw [g1 263 (by decide)]; rfl⟩) (g2 0 8 (by omega) (by omega)).symm
theorem r_lead {X : gv_X} {d : Nat} {G : gv_Sh} {A : Nat → Nat → Nat} {j : Nat → Nat → Int64} {cc : gv_Rs}  (hp263 : oX12 G 263) (p0 : okW (A 264)) (p1 : TrJ A j) : ∃ A1 : Nat → Nat → Nat, Ev X (d + 3) gvm_331 0 (gv_enter [.ref 263] 1) [] (G, (mI A, j), cc) (.inl (some (.int (nI (enc (moI (ceF (A 264)) 8 0))))), (G, (mI A1, j), cc)) ∧ (frQ A A1) ∧ (TrJ A1 j) ∧ (A1 263 0 = 0) := by
  obtain ⟨_, h, A1, rfl, hp⟩ := r_lead_p (X := X) (d := d) (G := G) (A := A) (j := j) (cc := cc)  (P := fun r => ∃ A1 : Nat → Nat → Nat, r = (.inl (some (.int (nI (enc (moI (ceF (A 264)) 8 0))))), (G, (mI A1, j), cc)) ∧ (frQ A A1) ∧ (TrJ A1 j) ∧ (A1 263 0 = 0)) hp263 p0 p1 (fun A1 h => ⟨A1, rfl, h⟩)
  exact ⟨A1, h, hp⟩
theorem w332 {X : gv_X} {d : Nat} {G : gv_Sh} {A : Nat → Nat → Nat} {j : Nat → Nat → Int64} {cc : gv_Rs} {P : gv_O × gv_S → Prop}  (hp263 : oX12 G 263) (H : (okW (A 264)) ∧ ((∀ A11 : Nat → Nat → Nat, ((∀ q, q ≠ 276 → A11 q = (gu A 263 0 0) q) ∧ (∀ a b, a ≤ b → b ≤ 8 → A11 276 (9 * a + b) = enc (moI (ceF (A 264)) (b - a) a))) → (A11 276 (9 * (0 + 1) + 8) ≤ 4294967296) ∧ ((1 ≤ 8 ∧ 8 ≤ 8) ∧ ((A11 276 (9 * 0 + (8 - 1)) ≤ 4294967296) ∧ ((((((A11 264 (22 + 0) + 4294967296 - A11 276 (9 * (0 + 1) + 8)) % 4294967296) + 2147483648) % 4294967296 < (((A11 264 (22 + 8 - 1) + 4294967296 - A11 276 (9 * 0 + (8 - 1))) % 4294967296) + 2147483648) % 4294967296) → P (.inl (some (.int (nI 1))), (G, (mI A11, j), cc))) ∧ (((((A11 264 (22 + 8 - 1) + 4294967296 - A11 276 (9 * 0 + (8 - 1))) % 4294967296) + 2147483648) % 4294967296 ≤ (((A11 264 (22 + 0) + 4294967296 - A11 276 (9 * (0 + 1) + 8)) % 4294967296) + 2147483648) % 4294967296) → P (.inl (some (.int (nI 0))), (G, (mI A11, j), cc))))))))) : EvP X (d + 3) gvm_332 0 (gv_enter [.ref 263] 1) [] (G, (mI A, j), cc) P :=
  (pv_aload_n rfl rfl   (pn_iconst rfl rfl   (pn_putI rfl rfl (oX12_k hp263)   (pv_aload_n rfl rfl   (match (r_laysMore (A := (gu A 263 0 0)) (X := X) (d := d + 0) (G := G) (j := j) (cc := cc) hp263 H.1 ) with | ⟨A11, e3x6, h1⟩ => pv_virt rfl rfl rfl rfl rfl (oX12_k hp263) rfl rfl rfl e3x6 (pv_aload_n rfl rfl   (pn_iconst rfl rfl   (pn_bipush rfl rfl   (pv_virt rfl rfl rfl rfl rfl (oX12_k hp263) rfl rfl rfl (r_leftFirst (f := 0) (t := 8) (A := A11) hp263 (by decide) (by decide) (H.2 A11 h1).1 ) (pv_aload_n rfl rfl   (pn_iconst rfl rfl   (pn_bipush rfl rfl   (pv_virt rfl rfl rfl rfl rfl (oX12_k hp263) rfl rfl rfl (r_rightFirst (f := 0) (t := 8) (A := A11) hp263 (by decide) (H.2 A11 h1).2.1 (H.2 A11 h1).2.2.1 ) (pn_ic_ltw rfl  (fun c2 => (pn_iconst rfl rfl   (pv_ireti rfl rfl ((H.2 A11 h1).2.2.2.1 c2)))) (fun c2 => (pn_iconst rfl rfl   (pv_goto rfl (pv_ireti rfl rfl ((H.2 A11 h1).2.2.2.2 c2)))))))))))))))))))
theorem r_side_p {X : gv_X} {d : Nat} {G : gv_Sh} {A : Nat → Nat → Nat} {j : Nat → Nat → Int64} {cc : gv_Rs} {P : gv_O × gv_S → Prop}  (hp263 : oX12 G 263) (p0 : okW (A 264)) (p1 : TrJ A j) (hP : ∀ A1 : Nat → Nat → Nat, (frQ A A1) ∧ (TrJ A1 j) ∧ (A1 263 0 = 0) → P (.inl (some (.int (nI (spSide (A 264))))), (G, (mI A1, j), cc))) : EvP X (d + 3) gvm_332 0 (gv_enter [.ref 263] 1) [] (G, (mI A, j), cc) P := by
  have hc : ∀ k, k < 8 → (ceF (A 264)) k ≤ 3 := fun k hk => okW_c p0 hk
  have m1 := moI_b hc (n := 7) (f := 1) (by omega)
  have m2 := moI_b hc (n := 7) (f := 0) (by omega)
  have k1 := hc 0 (by omega)
  have k2 := hc 7 (by omega)
  have fin : ∀ B, ((∀ q, q ≠ 276 → B q = gu A 263 0 0 q) ∧ ∀ a b, a ≤ b → b ≤ 8 → B 276 (9 * a + b) = enc (moI (ceF (A 264)) (b - a) a)) → (frQ A B ∧ TrJ B j ∧ B 263 0 = 0) ∧ (B 264 (22 + 0) + 4294967296 - B 276 (9 * (0 + 1) + 8)) % 4294967296 = enc (((ceF (A 264)) 0 : Int) - moI (ceF (A 264)) 7 1) ∧ (B 264 (22 + 8 - 1) + 4294967296 - B 276 (9 * 0 + (8 - 1))) % 4294967296 = enc (((ceF (A 264)) 7 : Int) - moI (ceF (A 264)) 7 0) ∧ B 276 (9 * (0 + 1) + 8) < 4294967296 ∧ B 276 (9 * 0 + (8 - 1)) < 4294967296 := by
    intro B hB
    obtain ⟨g1, g2⟩ := hB
    have e4 : B 264 = A 264 := (g1 264 (by decide)).trans rfl
    have r1 : B 276 (9 * (0 + 1) + 8) = enc (moI (ceF (A 264)) 7 1) := g2 1 8 (by omega) (by omega)
    have r2 : B 276 (9 * 0 + (8 - 1)) = enc (moI (ceF (A 264)) 7 0) := g2 0 7 (by omega) (by omega)
    refine ⟨⟨⟨fun q a => (g1 q (by omega)).trans (gu_ro (by omega)), fun k a => by rw [g1 263 (by decide)]; exact gu_k (by omega) rfl⟩, TrJ_of p1 ((g1 273 (by decide)).trans rfl) rfl, by rw [g1 263 (by decide)]; rfl⟩, ?_, ?_, by rw [r1]; exact enc_lt _, by rw [r2]; exact enc_lt _⟩
    · rw [r1, e4]; exact enc_sub k1 (by omega) (by omega)
    · rw [r2, e4]; exact enc_sub k2 (by omega) (by omega)
  have q1 := enc_sg (x := ((ceF (A 264)) 0 : Int) - moI (ceF (A 264)) 7 1) (by omega) (by omega)
  have q2 := enc_sg (x := ((ceF (A 264)) 7 : Int) - moI (ceF (A 264)) 7 0) (by omega) (by omega)
  unfold sg at q1 q2
  refine w332 hp263  ⟨by (first | omega | assumption | (have := (fin A11 h1).2.2.2.1; omega) | (have := (fin A11 h1).2.2.2.2; omega)), (fun A11 h1 => ⟨by (first | omega | assumption | (have := (fin A11 h1).2.2.2.1; omega) | (have := (fin A11 h1).2.2.2.2; omega)), ⟨by (first | omega | assumption | (have := (fin A11 h1).2.2.2.1; omega) | (have := (fin A11 h1).2.2.2.2; omega)), ⟨by (first | omega | assumption | (have := (fin A11 h1).2.2.2.1; omega) | (have := (fin A11 h1).2.2.2.2; omega)), ⟨fun c2 => ?_, fun c2 => ?_⟩⟩⟩⟩)⟩
  · obtain ⟨a, b, c, -, -⟩ := fin A11 h1
    rw [b, c] at c2
    exact qn (hP _ a) (by unfold spSide; rw [if_neg (by omega)])
  · obtain ⟨a, b, c, -, -⟩ := fin A11 h1
    rw [b, c] at c2
    exact qn (hP _ a) (by unfold spSide; rw [if_pos (by omega)])
theorem r_side {X : gv_X} {d : Nat} {G : gv_Sh} {A : Nat → Nat → Nat} {j : Nat → Nat → Int64} {cc : gv_Rs}  (hp263 : oX12 G 263) (p0 : okW (A 264)) (p1 : TrJ A j) : ∃ A1 : Nat → Nat → Nat, Ev X (d + 3) gvm_332 0 (gv_enter [.ref 263] 1) [] (G, (mI A, j), cc) (.inl (some (.int (nI (spSide (A 264))))), (G, (mI A1, j), cc)) ∧ (frQ A A1) ∧ (TrJ A1 j) ∧ (A1 263 0 = 0) := by
  obtain ⟨_, h, A1, rfl, hp⟩ := r_side_p (X := X) (d := d) (G := G) (A := A) (j := j) (cc := cc)  (P := fun r => ∃ A1 : Nat → Nat → Nat, r = (.inl (some (.int (nI (spSide (A 264))))), (G, (mI A1, j), cc)) ∧ (frQ A A1) ∧ (TrJ A1 j) ∧ (A1 263 0 = 0)) hp263 p0 p1 (fun A1 h => ⟨A1, rfl, h⟩)
  exact ⟨A1, h, hp⟩
