/-! the class: cells by turns, ops two by two -/
theorem cK_t {A B : Nat → Nat → Nat} {R : Nat → Nat} (p0 : cK A R) (f : ∀ q, q ≠ 262 → B q = A q) : cK B R ∧ frK A B := ⟨⟨p0.1, rW_fr p0.2.1 (fun q a b => f q (by omega)), knI_of p0.2.2.1 (f 55 (by omega)), p0.2.2.2.1, rRu_of p0.2.2.2.2.1 (fun q a b => f q (by omega)), smI_of p0.2.2.2.2.2 (f 61 (by omega))⟩, fun q a b c => f q c⟩
theorem moI_c {c e : Nat → Nat} (h : ∀ k, k < 8 → c k = e k) : ∀ {n f : Nat}, f + n ≤ 8 → moI c n f = moI e n f
  | 0, _, _ => rfl
  | n + 1, f, hf => by
    unfold moI
    rw [moI_c h (n := n) (f := f + 1) (by omega), moI_c h (n := n) (f := f) (by omega), h f (by omega), h (f + n) (by omega)]
theorem moI_1 (c : Nat → Nat) (f : Nat) : moI c 1 f = c f := by
  show max ((c f : Int) - 0) ((c (f + 0) : Int) - 0) = c f
  rw [Nat.add_zero]; omega
theorem tz_is : ∀ s, s < 256 → (decide (s = 0) || (decide (s / 2 ^ tzN s % 2 = 1) && allN (fun x => !decide (s / 2 ^ x % 2 = 1)) (tzN s))) = true := by decide +kernel
theorem tz_ex : ∀ s, s < 256 → (decide (s = 0) || !allN (fun x => !decide (s / 2 ^ x % 2 = 1)) 8) = true := by decide +kernel
theorem tz_lo : ∀ s, s < 256 → ∀ o, o < 8 → (decide (s = 0) || (decide (tzN s < o) || decide (oth s / 2 ^ o % 2 = 0))) = true := by decide +kernel
theorem tz_n : ∀ n, n < 9 → ∀ s, s < 256 → (!decide (s < 2 ^ n) || (decide (s = 0) || decide (tzN s < n))) = true := by decide +kernel
/-- an op with another one of the rest -/
def pcV (R tab : Nat → Nat) (p q r : Nat) : Nat := if r / 2 ^ q % 2 = 1 ∧ cls R p q = false then R (30 + 9 * p + 0) + R (30 + 9 * q + 0) + tab (out r q) else 4294967295
theorem pcV_b {R tab : Nat → Nat} {s o : Nat} (ho : o < 8) : pcV R tab (tzN s) o (oth s) = pbV R tab s o := by
  unfold pcV pbV; rw [if_neg (show ¬ o = 4294967295 by omega)]
theorem pb_lo {R tab : Nat → Nat} {s o : Nat} (hs : s < 256) (h0 : 0 < s) (ho : o ≤ tzN s) (h8 : o < 8) : pbV R tab s o = 4294967295 := by
  have := tz_lo s hs o h8
  simp only [Bool.or_eq_true, decide_eq_true_eq] at this
  unfold pbV; rw [if_neg (by omega), if_neg (by omega)]
theorem pm_lo {R tab : Nat → Nat} {s : Nat} (hs : s < 256) (h0 : 0 < s) (ht : tab (oth s) < 2147483648) : ∀ o, o ≤ tzN s + 1 → o ≤ 8 → pmN R tab s o = tab (oth s)
  | 0, _, _ => by
    show smax 0 (tab (oth s)) = _
    unfold smax sg; split <;> omega
  | o + 1, h, h8 => by
    show smax (pmN R tab s o) (pbV R tab s o) = _
    rw [pm_lo hs h0 ht o (by omega) (by omega), pb_lo hs h0 (by omega) (by omega)]
    unfold smax sg; split <;> omega
theorem lst_min {f : Nat → Bool} : ∀ {i k y : Nat}, k ≤ y → y < lstN f i k → f y = false
  | 0, k, y, h1, h2 => by
    have h2 : y < k := h2
    omega
  | i + 1, k, y, h1, h2 => by
    unfold lstN at h2
    by_cases hk : f k = true
    · rw [if_pos hk] at h2; omega
    · rw [if_neg hk] at h2
      by_cases e : y = k
      · rw [e]; exact Bool.eq_false_iff.mpr hk
      · exact lst_min (i := i) (k := k + 1) (by omega) h2
def fpV (R tab : Nat → Nat) (p r m : Nat) : Nat := if lstN (fun o => decide (pcV R tab p o r = m)) (R 0 - (p + 1)) (p + 1) = R 0 then 4294967295 else lstN (fun o => decide (pcV R tab p o r = m)) (R 0 - (p + 1)) (p + 1)
theorem fp_fo {R T tab : Nat → Nat} (h : okW R) {s : Nat} (hs : s < 256) (h0 : 0 < s) (hl : foN R T s < R 0) (he : pbV R T s (foN R T s) = T s) (hn : ¬ pbV R T s 4294967295 = T s) (ht : T s ≤ 6 * s) (e : ∀ x, x < s → tab x = T x) : fpV R tab (tzN s) (oth s) (T s) = foN R T s := by
  have n := okW_n h
  have pc : ∀ o, o < 8 → pcV R tab (tzN s) o (oth s) = pbV R T s o := fun o ho => (pcV_b ho).trans (pbV_t hs h0 e)
  have ef : foN R T s = lstN (fun o => decide (pbV R T s o = T s)) (R 0) 0 := if_neg hn
  have tz : tzN s < foN R T s := by
    refine Decidable.byContradiction (fun y => ?_)
    rw [pb_lo hs h0 (by omega) (by omega)] at he
    omega
  have el : lstN (fun o => decide (pcV R tab (tzN s) o (oth s) = T s)) (R 0 - (tzN s + 1)) (tzN s + 1) = foN R T s := by
    refine lst_at (fun y a b => ?_) ?_ (by omega) (by omega)
    · show decide _ = false
      rw [pc y (by omega)]
      exact lst_min (f := fun o => decide (pbV R T s o = T s)) (i := R 0) (k := 0) (by omega) (by rw [← ef]; exact b)
    · show decide _ = true
      rw [pc _ (by omega)]
      exact decide_eq_true he
  unfold fpV
  rw [el, if_neg (by omega)]
theorem w163 {X : gv_X} {d : Nat} {G : gv_Sh} {A : Nat → Nat → Nat} {j : Nat → Nat → Int64} {cc : gv_Rs} {P : gv_O × gv_S → Prop} {f : Nat} {t : Nat} (hp0 : oX11 G 0) (H : ((f % 8) < 8) ∧ ((((((f + 1) % 8) * 8) + (t % 8)) < 256) ∧ (((A 262 ((((f + 1) % 8) * 8) + (t % 8))) ≤ 4294967296) ∧ (P (.inl (some (.int (nI (((A 10 (f % 8)) + 4294967296 - (A 262 ((((f + 1) % 8) * 8) + (t % 8)))) % 4294967296)))), (G, (mI A, j), cc)))))) : EvP X (d + 0) gvm_163 0 (gv_enter [.ref 0, .int (nI f), .int (nI t)] 3) [] (G, (mI A, j), cc) P :=
  (pv_aload_n rfl rfl   (pv_getP rfl rfl (oX11_k hp0) (oX11_3 hp0)   (pv_getP rfl rfl (oX10_k (oX11_3c hp0)) (oX10_3 (oX11_3c hp0))   (pv_iload_n rfl rfl   (pn_bipush rfl rfl   (pn_iandm 3 8 rfl rfl rfl   (pn_iald rfl (oX10_3c (oX11_3c hp0)) (by decide) H.1 rfl (pv_aload_n rfl rfl   (pv_getP rfl rfl (oX11_k hp0) (oX11_14 hp0)   (pv_iload_n rfl rfl   (pn_iconst rfl rfl   (pn_iadd rfl   (pn_bipush rfl rfl   (pn_iandm 3 8 rfl rfl rfl   (pn_bipush rfl rfl   (pn_imul rfl   (pv_iload_n rfl rfl   (pn_bipush rfl rfl   (pn_iandm 3 8 rfl rfl rfl   (pn_iadd rfl   (pn_iald rfl (oX11_14c hp0) (by decide) H.2.1 rfl (pn_isubw rfl H.2.2.1  (pv_ireti rfl rfl H.2.2.2)))))))))))))))))))))))
theorem c_byLeft_p {X : gv_X} {d : Nat} {G : gv_Sh} {A : Nat → Nat → Nat} {j : Nat → Nat → Int64} {cc : gv_Rs} {P : gv_O × gv_S → Prop} {f : Nat} {t : Nat} (hp0 : oX11 G 0) (p0 : f < 7) (p1 : t < 8) (p2 : A 262 ((f + 1) * 8 + t) < 4294967296) (hP : P (.inl (some (.int (nI ((A 10 f + 4294967296 - A 262 ((f + 1) * 8 + t)) % 4294967296)))), (G, (mI A, j), cc))) : EvP X (d + 0) gvm_163 0 (gv_enter [.ref 0, .int (nI f), .int (nI t)] 3) [] (G, (mI A, j), cc) P := by
  have h := w163 (X := X) (d := d) (G := G) (A := A) (j := j) (cc := cc) (P := P) (f := f) (t := t) hp0
  rw [Nat.mod_eq_of_lt (show f < 8 by omega), Nat.mod_eq_of_lt (show f + 1 < 8 by omega), Nat.mod_eq_of_lt p1] at h
  exact h ⟨by omega, by omega, by omega, hP⟩
theorem c_byLeft {X : gv_X} {d : Nat} {G : gv_Sh} {A : Nat → Nat → Nat} {j : Nat → Nat → Int64} {cc : gv_Rs} {f : Nat} {t : Nat} (hp0 : oX11 G 0) (p0 : f < 7) (p1 : t < 8) (p2 : A 262 ((f + 1) * 8 + t) < 4294967296) : Ev X (d + 0) gvm_163 0 (gv_enter [.ref 0, .int (nI f), .int (nI t)] 3) [] (G, (mI A, j), cc) (.inl (some (.int (nI ((A 10 f + 4294967296 - A 262 ((f + 1) * 8 + t)) % 4294967296)))), (G, (mI A, j), cc)) := evp_det (c_byLeft_p hp0 p0 p1 p2 rfl)
theorem w164 {X : gv_X} {d : Nat} {G : gv_Sh} {A : Nat → Nat → Nat} {j : Nat → Nat → Int64} {cc : gv_Rs} {P : gv_O × gv_S → Prop} {f : Nat} {t : Nat} (hp0 : oX11 G 0) (H : ((t % 8) < 8) ∧ (((((f % 8) * 8) + (((t + 4294967296 - 1) % 4294967296) % 8)) < 256) ∧ (((A 262 (((f % 8) * 8) + (((t + 4294967296 - 1) % 4294967296) % 8))) ≤ 4294967296) ∧ (P (.inl (some (.int (nI (((A 10 (t % 8)) + 4294967296 - (A 262 (((f % 8) * 8) + (((t + 4294967296 - 1) % 4294967296) % 8)))) % 4294967296)))), (G, (mI A, j), cc)))))) : EvP X (d + 0) gvm_164 0 (gv_enter [.ref 0, .int (nI f), .int (nI t)] 3) [] (G, (mI A, j), cc) P :=
  (pv_aload_n rfl rfl   (pv_getP rfl rfl (oX11_k hp0) (oX11_3 hp0)   (pv_getP rfl rfl (oX10_k (oX11_3c hp0)) (oX10_3 (oX11_3c hp0))   (pv_iload_n rfl rfl   (pn_bipush rfl rfl   (pn_iandm 3 8 rfl rfl rfl   (pn_iald rfl (oX10_3c (oX11_3c hp0)) (by decide) H.1 rfl (pv_aload_n rfl rfl   (pv_getP rfl rfl (oX11_k hp0) (oX11_14 hp0)   (pv_iload_n rfl rfl   (pn_bipush rfl rfl   (pn_iandm 3 8 rfl rfl rfl   (pn_bipush rfl rfl   (pn_imul rfl   (pv_iload_n rfl rfl   (pn_iconst rfl rfl   (pn_isubw rfl (by decide)  (pn_bipush rfl rfl   (pn_iandm 3 8 rfl rfl rfl   (pn_iadd rfl   (pn_iald rfl (oX11_14c hp0) (by decide) H.2.1 rfl (pn_isubw rfl H.2.2.1  (pv_ireti rfl rfl H.2.2.2)))))))))))))))))))))))
theorem c_byRight_p {X : gv_X} {d : Nat} {G : gv_Sh} {A : Nat → Nat → Nat} {j : Nat → Nat → Int64} {cc : gv_Rs} {P : gv_O × gv_S → Prop} {f : Nat} {t : Nat} (hp0 : oX11 G 0) (p0 : f < 8) (p1 : 1 ≤ t) (p2 : t < 8) (p3 : A 262 (f * 8 + (t - 1)) < 4294967296) (hP : P (.inl (some (.int (nI ((A 10 t + 4294967296 - A 262 (f * 8 + (t - 1))) % 4294967296)))), (G, (mI A, j), cc))) : EvP X (d + 0) gvm_164 0 (gv_enter [.ref 0, .int (nI f), .int (nI t)] 3) [] (G, (mI A, j), cc) P := by
  have h := w164 (X := X) (d := d) (G := G) (A := A) (j := j) (cc := cc) (P := P) (f := f) (t := t) hp0
  rw [show (t + 4294967296 - 1) % 4294967296 % 8 = t - 1 by omega, Nat.mod_eq_of_lt p0, Nat.mod_eq_of_lt p2] at h
  exact h ⟨by omega, by omega, by omega, hP⟩
theorem c_byRight {X : gv_X} {d : Nat} {G : gv_Sh} {A : Nat → Nat → Nat} {j : Nat → Nat → Int64} {cc : gv_Rs} {f : Nat} {t : Nat} (hp0 : oX11 G 0) (p0 : f < 8) (p1 : 1 ≤ t) (p2 : t < 8) (p3 : A 262 (f * 8 + (t - 1)) < 4294967296) : Ev X (d + 0) gvm_164 0 (gv_enter [.ref 0, .int (nI f), .int (nI t)] 3) [] (G, (mI A, j), cc) (.inl (some (.int (nI ((A 10 t + 4294967296 - A 262 (f * 8 + (t - 1))) % 4294967296)))), (G, (mI A, j), cc)) := evp_det (c_byRight_p hp0 p0 p1 p2 p3 rfl)
theorem w162 {X : gv_X} {d : Nat} {G : gv_Sh} {A : Nat → Nat → Nat} {j : Nat → Nat → Int64} {cc : gv_Rs} {P : gv_O × gv_S → Prop}  (hp0 : oX11 G 0) (H : EvP X (d + 1) gvm_162 3 [some (.ref 0), some (.int (nI 7)), none] [] (G, (mI A, j), cc) P) : EvP X (d + 1) gvm_162 0 (gv_enter [.ref 0] 3) [] (G, (mI A, j), cc) P :=
  (pn_bipush rfl rfl   (pv_istore_n rfl rfl   H))
theorem w162_3 {X : gv_X} {d : Nat} {G : gv_Sh} {A : Nat → Nat → Nat} {j : Nat → Nat → Int64} {cc : gv_Rs} {P : gv_O × gv_S → Prop} {l1 : Nat} {l2 : Option Value} (hp0 : oX11 G 0) (H : (l1 < 4294967296) ∧ (((2147483648 ≤ l1) → P (.inl none, (G, (mI A, j), cc))) ∧ ((l1 < 2147483648) → (l1 < 8) ∧ ((((l1 * 8) + l1) < 256) ∧ (EvP X (d + 1) gvm_162 31 [some (.ref 0), some (.int (nI l1)), some (.int (nI (l1 + 1)))] [] (G, (mI (gu A 262 ((l1 * 8) + l1) (A 10 l1)), j), cc) P))))) : EvP X (d + 1) gvm_162 3 [some (.ref 0), some (.int (nI l1)), l2] [] (G, (mI A, j), cc) P :=
  (pv_iload_n rfl rfl   (pn_if_lt rfl H.1 (fun c1 => (pv_vret rfl (H.2.1 c1))) (fun c1 => (pv_aload_n rfl rfl   (pv_getP rfl rfl (oX11_k hp0) (oX11_14 hp0)   (pv_iload_n rfl rfl   (pn_bipush rfl rfl   (pn_imul rfl   (pv_iload_n rfl rfl   (pn_iadd rfl   (pv_aload_n rfl rfl   (pv_getP rfl rfl (oX11_k hp0) (oX11_3 hp0)   (pv_getP rfl rfl (oX10_k (oX11_3c hp0)) (oX10_3 (oX11_3c hp0))   (pv_iload_n rfl rfl   (pn_iald rfl (oX10_3c (oX11_3c hp0)) (by decide) (H.2.2 c1).1 rfl (pn_iast rfl (oX11_14c hp0) (by decide) (H.2.2 c1).2.1  (pv_iload_n rfl rfl   (pn_iconst rfl rfl   (pn_iadd rfl   (pv_istore_n rfl rfl   (H.2.2 c1).2.2))))))))))))))))))))
theorem w162_31 {X : gv_X} {d : Nat} {G : gv_Sh} {A : Nat → Nat → Nat} {j : Nat → Nat → Int64} {cc : gv_Rs} {P : gv_O × gv_S → Prop} {l1 : Nat} {l2 : Nat} (hp0 : oX11 G 0) (H : (((8 + 2147483648) % 4294967296 ≤ (l2 + 2147483648) % 4294967296) → EvP X (d + 1) gvm_162 3 [some (.ref 0), some (.int (nI ((l1 + 4294967296 - 1) % 4294967296))), some (.int (nI l2))] [] (G, (mI A, j), cc) P) ∧ (((l2 + 2147483648) % 4294967296 < (8 + 2147483648) % 4294967296) → (l1 < 7) ∧ ((l2 < 8) ∧ ((A 262 ((l1 + 1) * 8 + l2) < 4294967296) ∧ ((l1 < 8) ∧ ((1 ≤ l2) ∧ ((l2 < 8) ∧ ((A 262 (l1 * 8 + (l2 - 1)) < 4294967296) ∧ ((((l1 * 8) + l2) < 256) ∧ (EvP X (d + 1) gvm_162 31 [some (.ref 0), some (.int (nI l1)), some (.int (nI (l2 + 1)))] [] (G, (mI (gu A 262 ((l1 * 8) + l2) (smax ((A 10 l1 + 4294967296 - A 262 ((l1 + 1) * 8 + l2)) % 4294967296) ((A 10 l2 + 4294967296 - A 262 (l1 * 8 + (l2 - 1))) % 4294967296))), j), cc) P)))))))))) : EvP X (d + 1) gvm_162 31 [some (.ref 0), some (.int (nI l1)), some (.int (nI l2))] [] (G, (mI A, j), cc) P :=
  (pv_iload_n rfl rfl   (pn_bipush rfl rfl   (pn_ic_gew rfl  (fun c1 => (pn_idecw rfl (by decide) (by decide) rfl rfl (pv_goto rfl (H.1 c1)))) (fun c1 => (pv_aload_n rfl rfl   (pv_getP rfl rfl (oX11_k hp0) (oX11_14 hp0)   (pv_iload_n rfl rfl   (pn_bipush rfl rfl   (pn_imul rfl   (pv_iload_n rfl rfl   (pn_iadd rfl   (pv_aload_n rfl rfl   (pv_iload_n rfl rfl   (pv_iload_n rfl rfl   (pv_virt rfl rfl rfl rfl rfl (oX11_k hp0) rfl rfl rfl (c_byLeft (f := l1) (t := l2) (A := A) hp0 (H.2 c1).1 (H.2 c1).2.1 (H.2 c1).2.2.1 ) (pv_aload_n rfl rfl   (pv_iload_n rfl rfl   (pv_iload_n rfl rfl   (pv_virt rfl rfl rfl rfl rfl (oX11_k hp0) rfl rfl rfl (c_byRight (f := l1) (t := l2) (A := A) hp0 (H.2 c1).2.2.2.1 (H.2 c1).2.2.2.2.1 (H.2 c1).2.2.2.2.2.1 (H.2 c1).2.2.2.2.2.2.1 ) (pv_stat rfl rfl rfl rfl rfl rfl rfl rfl (k_maxs (a := ((A 10 l1 + 4294967296 - A 262 ((l1 + 1) * 8 + l2)) % 4294967296)) (b := ((A 10 l2 + 4294967296 - A 262 (l1 * 8 + (l2 - 1))) % 4294967296)) (A := A)  ) (pn_iast rfl (oX11_14c hp0) (by decide) (H.2 c1).2.2.2.2.2.2.2.1  (pn_iinc rfl rfl rfl rfl   (pv_goto rfl (H.2 c1).2.2.2.2.2.2.2.2)))))))))))))))))))))))
theorem c_playTurns_p {X : gv_X} {d : Nat} {G : gv_Sh} {A : Nat → Nat → Nat} {j : Nat → Nat → Int64} {cc : gv_Rs} {P : gv_O × gv_S → Prop}  (hp0 : oX11 G 0) (p0 : ∀ k, k < 8 → A 10 k ≤ 3) (hP : ∀ A1 : Nat → Nat → Nat, (∀ q, q ≠ 262 → A1 q = A q) ∧ (∀ f t, f ≤ t → t < 8 → A1 262 (f * 8 + t) = enc (moI (A 10) (t - f + 1) f)) → P (.inl none, (G, (mI A1, j), cc))) : EvP X (d + 1) gvm_162 0 (gv_enter [.ref 0] 3) [] (G, (mI A, j), cc) P := by
  have Li : ∀ f, f < 8 → (∀ B l2, (∀ q, q ≠ 262 → B q = A q) → (∀ f' t', f' ≤ t' → t' < 8 → f ≤ f' → B 262 (f' * 8 + t') = enc (moI (A 10) (t' - f' + 1) f')) → EvP X (d + 1) gvm_162 3 [some (.ref 0), some (.int (nI ((f + 4294967296 - 1) % 4294967296))), some (.int (nI l2))] [] (G, (mI B, j), cc) P) → ∀ i t B, t + i = 8 → f < t → (∀ q, q ≠ 262 → B q = A q) → (∀ f' t', f' ≤ t' → t' < 8 → (f < f' ∨ (f' = f ∧ t' < t)) → B 262 (f' * 8 + t') = enc (moI (A 10) (t' - f' + 1) f')) → EvP X (d + 1) gvm_162 31 [some (.ref 0), some (.int (nI f)), some (.int (nI t))] [] (G, (mI B, j), cc) P := by
    intro f hf hn i
    induction i with
    | zero =>
      intro t B ht h1 hB hK
      exact w162_31 hp0 ⟨fun c1 => hn B t hB (fun f' t' a b c => hK f' t' a b (by omega)), fun c1 => absurd c1 (by omega)⟩
    | succ i ih =>
      intro t B ht h1 hB hK
      have k1 := hK (f + 1) t (by omega) (by omega) (by omega)
      have k2 := hK f (t - 1) (by omega) (by omega) (by omega)
      rw [show t - (f + 1) + 1 = t - f by omega] at k1
      rw [show t - 1 - f + 1 = t - f by omega] at k2
      have b1 := moI_b p0 (n := t - f) (f := f + 1) (by omega)
      have b2 := moI_b p0 (n := t - f) (f := f) (by omega)
      have e10 : B 10 = A 10 := hB 10 (by decide)
      have h := w162_31 (X := X) (d := d) (G := G) (A := B) (j := j) (cc := cc) (P := P) (l1 := f) (l2 := t) hp0
      rw [k1, k2, e10, enc_sub (p0 f (by omega)) (by omega) (by omega), enc_sub (p0 t (by omega)) (by omega) (by omega)] at h
      have c1' := p0 f (by omega)
      have c2' := p0 t (by omega)
      rw [enc_max (by omega) (by omega) (by omega) (by omega)] at h
      refine h ⟨fun c1 => absurd c1 (by omega), fun c1 => ⟨by omega, by omega, enc_lt _, by omega, by omega, by omega, enc_lt _, by omega, ih (t + 1) _ (by omega) (by omega) (fun q hq => (gu_row hq).trans (hB q hq)) (fun f' t' a b c => ?_)⟩⟩
      by_cases z : f' = f ∧ t' = t
      · obtain ⟨rfl, rfl⟩ := z
        rw [gu_hit, moI_s, show f' + (t' - f') = t' by omega]
      · rw [gu_k (by omega) rfl]; exact hK f' t' a b (by omega)
  have Lp : ∀ r B l2, r ≤ 8 → (∀ q, q ≠ 262 → B q = A q) → (∀ f' t', f' ≤ t' → t' < 8 → r ≤ f' → B 262 (f' * 8 + t') = enc (moI (A 10) (t' - f' + 1) f')) → EvP X (d + 1) gvm_162 3 [some (.ref 0), some (.int (nI ((r + 4294967296 - 1) % 4294967296))), l2] [] (G, (mI B, j), cc) P := by
    intro r
    induction r with
    | zero =>
      intro B l2 hr hB hK
      exact w162_3 hp0 ⟨by omega, fun c1 => hP B ⟨hB, fun f t a b => hK f t a b (by omega)⟩, fun c1 => absurd c1 (by omega)⟩
    | succ r ih =>
      intro B l2 hr hB hK
      rw [show (r + 1 + 4294967296 - 1) % 4294967296 = r by omega]
      have e10 : B 10 = A 10 := hB 10 (by decide)
      refine w162_3 hp0 ⟨by omega, fun c1 => absurd c1 (by omega), fun c1 => ⟨by omega, by omega, Li r (by omega) (fun B l2 a b => ih B _ (by omega) a b) (7 - r) (r + 1) _ (by omega) (by omega) (fun q hq => (gu_row hq).trans (hB q hq)) (fun f' t' a b c => ?_)⟩⟩
      by_cases z : f' = r ∧ t' = r
      · have := p0 r (by omega)
        rw [z.1, z.2, gu_hit, show r - r + 1 = 1 by omega, moI_1, e10, encN (by omega)]
      · rw [gu_k (by omega) rfl]; exact hK f' t' a b (by omega)
  exact w162 hp0 (Lp 8 A none (Nat.le_refl _) (fun _ _ => rfl) (fun f' t' a b c => absurd c (by omega)))
theorem c_playTurns {X : gv_X} {d : Nat} {G : gv_Sh} {A : Nat → Nat → Nat} {j : Nat → Nat → Int64} {cc : gv_Rs}  (hp0 : oX11 G 0) (p0 : ∀ k, k < 8 → A 10 k ≤ 3) : ∃ A1 : Nat → Nat → Nat, Ev X (d + 1) gvm_162 0 (gv_enter [.ref 0] 3) [] (G, (mI A, j), cc) (.inl none, (G, (mI A1, j), cc)) ∧ (∀ q, q ≠ 262 → A1 q = A q) ∧ (∀ f t, f ≤ t → t < 8 → A1 262 (f * 8 + t) = enc (moI (A 10) (t - f + 1) f)) := by
  obtain ⟨_, h, A1, rfl, hp⟩ := c_playTurns_p (X := X) (d := d) (G := G) (A := A) (j := j) (cc := cc)  (P := fun r => ∃ A1 : Nat → Nat → Nat, r = (.inl none, (G, (mI A1, j), cc)) ∧ (∀ q, q ≠ 262 → A1 q = A q) ∧ (∀ f t, f ≤ t → t < 8 → A1 262 (f * 8 + t) = enc (moI (A 10) (t - f + 1) f))) hp0 p0 (fun A1 h => ⟨A1, rfl, h⟩)
  exact ⟨A1, h, hp⟩
theorem w165 {X : gv_X} {d : Nat} {G : gv_Sh} {A : Nat → Nat → Nat} {j : Nat → Nat → Int64} {cc : gv_Rs} {P : gv_O × gv_S → Prop}  (hp0 : oX11 G 0) (H : (∀ k, k < 8 → A 10 k ≤ 3) ∧ ((∀ A1v1 : Nat → Nat → Nat, ((∀ q, q ≠ 262 → A1v1 q = A q) ∧ (∀ f t, f ≤ t → t < 8 → A1v1 262 (f * 8 + t) = enc (moI (A 10) (t - f + 1) f))) → P (.inl (some (.int (nI (A1v1 262 7)))), (G, (mI A1v1, j), cc))))) : EvP X (d + 2) gvm_165 0 (gv_enter [.ref 0] 1) [] (G, (mI A, j), cc) P :=
  (pv_aload_n rfl rfl   (match (c_playTurns (A := A) (X := X) (d := d + 0) (G := G) (j := j) (cc := cc) hp0 H.1 ) with | ⟨A1v1, e1x1, h1⟩ => pv_virt rfl rfl rfl rfl rfl (oX11_k hp0) rfl rfl rfl e1x1 (pv_aload_n rfl rfl   (pv_getP rfl rfl (oX11_k hp0) (oX11_14 hp0)   (pn_bipush rfl rfl   (pn_iald rfl (oX11_14c hp0) (by decide) (by decide) rfl (pv_ireti rfl rfl (H.2 A1v1 h1))))))))
theorem c_lead_p {X : gv_X} {d : Nat} {G : gv_Sh} {A : Nat → Nat → Nat} {j : Nat → Nat → Int64} {cc : gv_Rs} {P : gv_O × gv_S → Prop} {R : Nat → Nat} (hp0 : oX11 G 0) (p0 : cK A R) (hP : ∀ A1 : Nat → Nat → Nat, (cK A1 R) ∧ (frK A A1) → P (.inl (some (.int (nI (enc (moI (ceF R) 8 0))))), (G, (mI A1, j), cc))) : EvP X (d + 2) gvm_165 0 (gv_enter [.ref 0] 1) [] (G, (mI A, j), cc) P := by
  have n := okW_n p0.1
  have ce : ∀ k, k < 8 → A 10 k = ceF R k := p0.2.1.2.2.1
  have c3 : ∀ k, k < 8 → A 10 k ≤ 3 := fun k hk => by rw [ce k hk]; exact okW_c p0.1 hk
  refine w165 hp0 ⟨c3, fun B h1 => qn (hP B (cK_t p0 h1.1)) ?_⟩
  have := h1.2 0 7 (by omega) (by omega)
  rw [moI_c ce (by omega)] at this
  exact this.symm
theorem c_lead {X : gv_X} {d : Nat} {G : gv_Sh} {A : Nat → Nat → Nat} {j : Nat → Nat → Int64} {cc : gv_Rs} {R : Nat → Nat} (hp0 : oX11 G 0) (p0 : cK A R) : ∃ A1 : Nat → Nat → Nat, Ev X (d + 2) gvm_165 0 (gv_enter [.ref 0] 1) [] (G, (mI A, j), cc) (.inl (some (.int (nI (enc (moI (ceF R) 8 0))))), (G, (mI A1, j), cc)) ∧ (cK A1 R) ∧ (frK A A1) := by
  obtain ⟨_, h, A1, rfl, hp⟩ := c_lead_p (X := X) (d := d) (G := G) (A := A) (j := j) (cc := cc) (R := R) (P := fun r => ∃ A1 : Nat → Nat → Nat, r = (.inl (some (.int (nI (enc (moI (ceF R) 8 0))))), (G, (mI A1, j), cc)) ∧ (cK A1 R) ∧ (frK A A1)) hp0 p0 (fun A1 h => ⟨A1, rfl, h⟩)
  exact ⟨A1, h, hp⟩
theorem w166 {X : gv_X} {d : Nat} {G : gv_Sh} {A : Nat → Nat → Nat} {j : Nat → Nat → Int64} {cc : gv_Rs} {P : gv_O × gv_S → Prop}  (hp0 : oX11 G 0) (H : (∀ k, k < 8 → A 10 k ≤ 3) ∧ ((∀ A1v1 : Nat → Nat → Nat, ((∀ q, q ≠ 262 → A1v1 q = A q) ∧ (∀ f t, f ≤ t → t < 8 → A1v1 262 (f * 8 + t) = enc (moI (A 10) (t - f + 1) f))) → (A1v1 262 (0 * 8 + (7 - 1)) < 4294967296) ∧ ((A1v1 262 ((0 + 1) * 8 + 7) < 4294967296) ∧ ((((((A1v1 10 7 + 4294967296 - A1v1 262 (0 * 8 + (7 - 1))) % 4294967296) + 2147483648) % 4294967296 ≤ (((A1v1 10 0 + 4294967296 - A1v1 262 ((0 + 1) * 8 + 7)) % 4294967296) + 2147483648) % 4294967296) → P (.inl (some (.int (nI 0))), (G, (mI A1v1, j), cc))) ∧ (((((A1v1 10 0 + 4294967296 - A1v1 262 ((0 + 1) * 8 + 7)) % 4294967296) + 2147483648) % 4294967296 < (((A1v1 10 7 + 4294967296 - A1v1 262 (0 * 8 + (7 - 1))) % 4294967296) + 2147483648) % 4294967296) → P (.inl (some (.int (nI 1))), (G, (mI A1v1, j), cc)))))))) : EvP X (d + 2) gvm_166 0 (gv_enter [.ref 0] 1) [] (G, (mI A, j), cc) P :=
  (pv_aload_n rfl rfl   (match (c_playTurns (A := A) (X := X) (d := d + 0) (G := G) (j := j) (cc := cc) hp0 H.1 ) with | ⟨A1v1, e3x1, h1⟩ => pv_virt rfl rfl rfl rfl rfl (oX11_k hp0) rfl rfl rfl e3x1 (pv_aload_n rfl rfl   (pn_iconst rfl rfl   (pn_bipush rfl rfl   (pv_virt rfl rfl rfl rfl rfl (oX11_k hp0) rfl rfl rfl (c_byRight (f := 0) (t := 7) (A := A1v1) hp0 (by decide) (by decide) (by decide) (H.2 A1v1 h1).1 ) (pv_aload_n rfl rfl   (pn_iconst rfl rfl   (pn_bipush rfl rfl   (pv_virt rfl rfl rfl rfl rfl (oX11_k hp0) rfl rfl rfl (c_byLeft (f := 0) (t := 7) (A := A1v1) hp0 (by decide) (by decide) (H.2 A1v1 h1).2.1 ) (pn_ic_lew rfl  (fun c2 => (pn_iconst rfl rfl   (pv_ireti rfl rfl ((H.2 A1v1 h1).2.2.1 c2)))) (fun c2 => (pn_iconst rfl rfl   (pv_goto rfl (pv_ireti rfl rfl ((H.2 A1v1 h1).2.2.2 c2))))))))))))))))
theorem c_side_p {X : gv_X} {d : Nat} {G : gv_Sh} {A : Nat → Nat → Nat} {j : Nat → Nat → Int64} {cc : gv_Rs} {P : gv_O × gv_S → Prop} {R : Nat → Nat} (hp0 : oX11 G 0) (p0 : cK A R) (hP : ∀ A1 : Nat → Nat → Nat, (cK A1 R) ∧ (frK A A1) → P (.inl (some (.int (nI (spSide R)))), (G, (mI A1, j), cc))) : EvP X (d + 2) gvm_166 0 (gv_enter [.ref 0] 1) [] (G, (mI A, j), cc) P := by
  have n := okW_n p0.1
  have ce : ∀ k, k < 8 → A 10 k = ceF R k := p0.2.1.2.2.1
  have c3 : ∀ k, k < 8 → A 10 k ≤ 3 := fun k hk => by rw [ce k hk]; exact okW_c p0.1 hk
  refine w166 hp0 ⟨c3, fun B h1 => ?_⟩
  have e10 : B 10 = A 10 := h1.1 10 (by decide)
  have k1 : B 262 (0 * 8 + (7 - 1)) = enc (moI (A 10) 7 0) := h1.2 0 6 (by omega) (by omega)
  have k2 : B 262 ((0 + 1) * 8 + 7) = enc (moI (A 10) 7 1) := h1.2 1 7 (by omega) (by omega)
  have b1 := moI_b c3 (n := 7) (f := 0) (by omega)
  have b2 := moI_b c3 (n := 7) (f := 1) (by omega)
  have x1 := c3 7 (by omega)
  have x2 := c3 0 (by omega)
  rw [k1, k2, e10, enc_sub x1 (by omega) (by omega), enc_sub x2 (by omega) (by omega)]
  have cm := enc_cmp (x := (A 10 7 : Int) - moI (A 10) 7 0) (y := (A 10 0 : Int) - moI (A 10) 7 1) (by omega) (by omega) (by omega) (by omega)
  have es : spSide R = if (A 10 7 : Int) - moI (A 10) 7 0 ≤ (A 10 0 : Int) - moI (A 10) 7 1 then 0 else 1 := by
    unfold spSide
    rw [moI_c ce (by omega), moI_c ce (by omega), ce 7 (by omega), ce 0 (by omega)]
  refine ⟨enc_lt _, enc_lt _, fun c1 => qn (hP B (cK_t p0 h1.1)) ?_, fun c1 => qn (hP B (cK_t p0 h1.1)) ?_⟩
  · rw [es, if_pos (cm.mp c1)]
  · rw [es, if_neg (fun y => absurd (cm.mpr y) (by omega))]
theorem c_side {X : gv_X} {d : Nat} {G : gv_Sh} {A : Nat → Nat → Nat} {j : Nat → Nat → Int64} {cc : gv_Rs} {R : Nat → Nat} (hp0 : oX11 G 0) (p0 : cK A R) : ∃ A1 : Nat → Nat → Nat, Ev X (d + 2) gvm_166 0 (gv_enter [.ref 0] 1) [] (G, (mI A, j), cc) (.inl (some (.int (nI (spSide R)))), (G, (mI A1, j), cc)) ∧ (cK A1 R) ∧ (frK A A1) := by
  obtain ⟨_, h, A1, rfl, hp⟩ := c_side_p (X := X) (d := d) (G := G) (A := A) (j := j) (cc := cc) (R := R) (P := fun r => ∃ A1 : Nat → Nat → Nat, r = (.inl (some (.int (nI (spSide R)))), (G, (mI A1, j), cc)) ∧ (cK A1 R) ∧ (frK A A1)) hp0 p0 (fun A1 h => ⟨A1, rfl, h⟩)
  exact ⟨A1, h, hp⟩
theorem w170 {X : gv_X} {d : Nat} {G : gv_Sh} {A : Nat → Nat → Nat} {j : Nat → Nat → Int64} {cc : gv_Rs} {P : gv_O × gv_S → Prop} {s : Nat} (hp0 : oX11 G 0) (H : EvP X (d + 0) gvm_170 2 [some (.ref 0), some (.int (nI s)), some (.int (nI 0))] [] (G, (mI A, j), cc) P) : EvP X (d + 0) gvm_170 0 (gv_enter [.ref 0, .int (nI s)] 3) [] (G, (mI A, j), cc) P :=
  (pn_iconst rfl rfl   (pv_istore_n rfl rfl   H))
theorem w170_2 {X : gv_X} {d : Nat} {G : gv_Sh} {A : Nat → Nat → Nat} {j : Nat → Nat → Int64} {cc : gv_Rs} {P : gv_O × gv_S → Prop} {s : Nat} {l2 : Nat} (hp0 : oX11 G 0) (H : (l2 < 2147483648) ∧ (((8 ≤ l2) → P (.inl (some (.int (nI 8))), (G, (mI A, j), cc))) ∧ ((l2 < 8) → (s < 2147483648) ∧ ((l2 < 32) ∧ ((((s / 2 ^ l2) % 2) < 4294967296) ∧ (((¬ ((s / 2 ^ l2) % 2) = 1) → EvP X (d + 0) gvm_170 2 [some (.ref 0), some (.int (nI s)), some (.int (nI (l2 + 1)))] [] (G, (mI A, j), cc) P) ∧ ((((s / 2 ^ l2) % 2) = 1) → P (.inl (some (.int (nI l2))), (G, (mI A, j), cc))))))))) : EvP X (d + 0) gvm_170 2 [some (.ref 0), some (.int (nI s)), some (.int (nI l2))] [] (G, (mI A, j), cc) P :=
  (pv_iload_n rfl rfl   (pn_bipush rfl rfl   (pn_ic_ge rfl H.1 (by decide) (fun c1 => (pn_bipush rfl rfl   (pv_ireti rfl rfl (H.2.1 c1)))) (fun c1 => (pv_iload_n rfl rfl   (pv_iload_n rfl rfl   (pn_ishr rfl (H.2.2 c1).1 (H.2.2 c1).2.1  (pn_iconst rfl rfl   (pn_iandm 1 2 rfl rfl rfl   (pn_iconst rfl rfl   (pn_ic_ne rfl (H.2.2 c1).2.2.1 (by decide) (fun c2 => (pn_iinc rfl rfl rfl rfl   (pv_goto rfl ((H.2.2 c1).2.2.2.1 c2)))) (fun c2 => (pv_iload_n rfl rfl   (pv_ireti rfl rfl ((H.2.2 c1).2.2.2.2 c2)))))))))))))))
theorem c_lowest_p {X : gv_X} {d : Nat} {G : gv_Sh} {A : Nat → Nat → Nat} {j : Nat → Nat → Int64} {cc : gv_Rs} {P : gv_O × gv_S → Prop} {s : Nat} (hp0 : oX11 G 0) (p0 : 0 < s) (p1 : s < 256) (hP : P (.inl (some (.int (nI (tzN s)))), (G, (mI A, j), cc))) : EvP X (d + 0) gvm_170 0 (gv_enter [.ref 0, .int (nI s)] 3) [] (G, (mI A, j), cc) P := by
  have Lp : ∀ i k, k + i = 8 → (∀ x, x < k → ¬ s / 2 ^ x % 2 = 1) → EvP X (d + 0) gvm_170 2 [some (.ref 0), some (.int (nI s)), some (.int (nI k))] [] (G, (mI A, j), cc) P := by
    intro i
    induction i with
    | zero =>
      intro k hk hl
      obtain rfl : k = 8 := by omega
      have := tz_ex s p1
      rw [allN_iff.mpr (fun x hx => by rw [decide_eq_false (hl x hx)]; rfl)] at this
      simp only [Bool.or_eq_true, decide_eq_true_eq] at this
      rcases this with z | z
      · omega
      · cases z
    | succ i ih =>
      intro k hk hl
      refine w170_2 hp0 ⟨by omega, fun c1 => absurd c1 (by omega), fun c1 => ⟨by omega, by omega, by omega, fun c2 => ih (k + 1) (by omega) (fun x hx => ?_), fun c2 => qn hP ?_⟩⟩
      · by_cases z : x = k
        · rw [z]; exact c2
        · exact hl x (by omega)
      · have := tz_is s p1
        simp only [Bool.or_eq_true, Bool.and_eq_true, decide_eq_true_eq] at this
        rcases this with z | ⟨z1, z2⟩
        · omega
        · rcases Nat.lt_trichotomy (tzN s) k with y | y | y
          · exact absurd z1 (hl _ y)
          · exact y
          · have := allN_iff.mp z2 k y
            rw [decide_eq_true c2] at this
            cases this
  exact w170 hp0 (Lp 8 0 rfl (fun x hx => absurd hx (by omega)))
theorem c_lowest {X : gv_X} {d : Nat} {G : gv_Sh} {A : Nat → Nat → Nat} {j : Nat → Nat → Int64} {cc : gv_Rs} {s : Nat} (hp0 : oX11 G 0) (p0 : 0 < s) (p1 : s < 256) : Ev X (d + 0) gvm_170 0 (gv_enter [.ref 0, .int (nI s)] 3) [] (G, (mI A, j), cc) (.inl (some (.int (nI (tzN s)))), (G, (mI A, j), cc)) := evp_det (c_lowest_p hp0 p0 p1 rfl)
theorem w168 {X : gv_X} {d : Nat} {G : gv_Sh} {A : Nat → Nat → Nat} {j : Nat → Nat → Int64} {cc : gv_Rs} {P : gv_O × gv_S → Prop} {p : Nat} {q : Nat} {r : Nat} {R : Nat → Nat} (hp0 : oX11 G 0) (H : (r < 2147483648) ∧ ((q < 32) ∧ ((((r / 2 ^ q) % 2) < 4294967296) ∧ (((((r / 2 ^ q) % 2) = 0) → P (.inl (some (.int (nI 4294967295))), (G, (mI A, j), cc))) ∧ ((¬ ((r / 2 ^ q) % 2) = 0) → (okW R) ∧ ((rO A 3 R) ∧ ((p < R 0) ∧ ((q < R 0) ∧ ((((cls R p q) = false) → (q < 32) ∧ (((r &&& ((2 ^ q) ^^^ 4294967295)) < 4294967296) ∧ (((2147483648 ≤ (r &&& ((2 ^ q) ^^^ 4294967295))) → P (.inl (some (.int (nI 4294967295))), (G, (mI A, j), cc))) ∧ (((r &&& ((2 ^ q) ^^^ 4294967295)) < 2147483648) → ((r &&& ((2 ^ q) ^^^ 4294967295)) < 2147483648) ∧ ((((r &&& ((2 ^ q) ^^^ 4294967295)) < 256) → (p < 4294967296) ∧ ((A 3 0 ≤ 8) ∧ ((q < 4294967296) ∧ ((A 3 0 ≤ 8) ∧ (((r &&& ((2 ^ q) ^^^ 4294967295)) < 256) ∧ (P (.inl (some (.int (nI (((if p < A 3 0 then A (3 + 1) p else 0) + (if q < A 3 0 then A (3 + 1) q else 0)) + (A 262 (r &&& ((2 ^ q) ^^^ 4294967295))))))), (G, (mI A, j), cc)))))))) ∧ ((256 ≤ (r &&& ((2 ^ q) ^^^ 4294967295))) → P (.inl (some (.int (nI 4294967295))), (G, (mI A, j), cc)))))))) ∧ (((cls R p q) = true) → P (.inl (some (.int (nI 4294967295))), (G, (mI A, j), cc)))))))))))) : EvP X (d + 4) gvm_168 0 (gv_enter [.ref 0, .int (nI p), .int (nI q), .int (nI r)] 5) [] (G, (mI A, j), cc) P :=
  (pv_iload_n rfl rfl   (pv_iload_n rfl rfl   (pn_ishr rfl H.1 H.2.1  (pn_iconst rfl rfl   (pn_iandm 1 2 rfl rfl rfl   (pn_if_eq rfl H.2.2.1 (fun c1 => (pn_iconst (u := 4294967295) rfl (by decide)   (pv_ireti rfl rfl (H.2.2.2.1 c1)))) (fun c1 => (pv_aload_n rfl rfl   (pv_getP rfl rfl (oX11_k hp0) (oX11_3 hp0)   (pv_getP rfl rfl (oX10_k (oX11_3c hp0)) (oX10_0 (oX11_3c hp0))   (pv_iload_n rfl rfl   (pv_iload_n rfl rfl   (pv_virt rfl rfl rfl rfl rfl (oX6_k (oX10_0c (oX11_3c hp0))) rfl rfl rfl (c_colR (p := p) (q := q) (R := R) (A := A) (oX10_0c (oX11_3c hp0)) (H.2.2.2.2 c1).1 (H.2.2.2.2 c1).2.1 (H.2.2.2.2 c1).2.2.1 (H.2.2.2.2 c1).2.2.2.1 ) (pv_if_eq_zo rfl  (fun c2 => (pv_iload_n rfl rfl   (pn_iconst rfl rfl   (pv_iload_n rfl rfl   (pn_ishl1 rfl ((H.2.2.2.2 c1).2.2.2.2.1 c2).1  (pn_iconst (u := 4294967295) rfl (by decide)   (pn_ixor rfl   (pn_iand rfl   (pv_istore rfl rfl   (pv_iload rfl rfl   (pn_if_lt rfl ((H.2.2.2.2 c1).2.2.2.2.1 c2).2.1 (fun c3 => (pn_iconst (u := 4294967295) rfl (by decide)   (pv_ireti rfl rfl (((H.2.2.2.2 c1).2.2.2.2.1 c2).2.2.1 c3)))) (fun c3 => (pv_iload rfl rfl   (pv_aload_n rfl rfl   (pv_getP rfl rfl (oX11_k hp0) (oX11_14 hp0)   (pv_alen rfl (oX11_14c hp0)   (pn_ic_lt rfl (((H.2.2.2.2 c1).2.2.2.2.1 c2).2.2.2 c3).1 (by decide) (fun c4 => (pv_aload_n rfl rfl   (pv_getP rfl rfl (oX11_k hp0) (oX11_3 hp0)   (pv_getP rfl rfl (oX10_k (oX11_3c hp0)) (oX10_0 (oX11_3c hp0))   (pv_iload_n rfl rfl   (pv_virt rfl rfl rfl rfl rfl (oX6_k (oX10_0c (oX11_3c hp0))) rfl rfl rfl (c_size (p := p) (A := A) (oX10_0c (oX11_3c hp0)) ((((H.2.2.2.2 c1).2.2.2.2.1 c2).2.2.2 c3).2.1 c4).1 ((((H.2.2.2.2 c1).2.2.2.2.1 c2).2.2.2 c3).2.1 c4).2.1 ) (pv_aload_n rfl rfl   (pv_getP rfl rfl (oX11_k hp0) (oX11_3 hp0)   (pv_getP rfl rfl (oX10_k (oX11_3c hp0)) (oX10_0 (oX11_3c hp0))   (pv_iload_n rfl rfl   (pv_virt rfl rfl rfl rfl rfl (oX6_k (oX10_0c (oX11_3c hp0))) rfl rfl rfl (c_size (p := q) (A := A) (oX10_0c (oX11_3c hp0)) ((((H.2.2.2.2 c1).2.2.2.2.1 c2).2.2.2 c3).2.1 c4).2.2.1 ((((H.2.2.2.2 c1).2.2.2.2.1 c2).2.2.2 c3).2.1 c4).2.2.2.1 ) (pn_iadd rfl   (pv_aload_n rfl rfl   (pv_getP rfl rfl (oX11_k hp0) (oX11_14 hp0)   (pv_iload rfl rfl   (pn_iald rfl (oX11_14c hp0) (by decide) ((((H.2.2.2.2 c1).2.2.2.2.1 c2).2.2.2 c3).2.1 c4).2.2.2.2.1 rfl (pn_iadd rfl   (pv_ireti rfl rfl ((((H.2.2.2.2 c1).2.2.2.2.1 c2).2.2.2 c3).2.1 c4).2.2.2.2.2)))))))))))))))))) (fun c4 => (pn_iconst (u := 4294967295) rfl (by decide)   (pv_ireti rfl rfl ((((H.2.2.2.2 c1).2.2.2.2.1 c2).2.2.2 c3).2.2 c4))))))))))))))))))))) (fun c2 => (pn_iconst (u := 4294967295) rfl (by decide)   (pv_ireti rfl rfl ((H.2.2.2.2 c1).2.2.2.2.2 c2))))))))))))))))))
theorem c_pairedWith_p {X : gv_X} {d : Nat} {G : gv_Sh} {A : Nat → Nat → Nat} {j : Nat → Nat → Int64} {cc : gv_Rs} {P : gv_O × gv_S → Prop} {p : Nat} {q : Nat} {r : Nat} {R : Nat → Nat} (hp0 : oX11 G 0) (p0 : cK A R) (p1 : p < R 0) (p2 : q < R 0) (p3 : r < 256) (hP : P (.inl (some (.int (nI (pcV R (A 262) p q r)))), (G, (mI A, j), cc))) : EvP X (d + 4) gvm_168 0 (gv_enter [.ref 0, .int (nI p), .int (nI q), .int (nI r)] 5) [] (G, (mI A, j), cc) P := by
  have n := okW_n p0.1
  have ro : rO A 3 R := p0.2.1.1
  have l := out_le r q
  have l : (r &&& ((2 ^ q) ^^^ 4294967295)) ≤ r := l
  refine w168 (R := R) hp0 ⟨by omega, by omega, by omega, fun c1 => qn hP ?_, fun c1 => ⟨p0.1, ro, p1, p2, fun c2 => ⟨by omega, by omega, fun c3 => absurd c3 (by omega), fun c3 => ⟨by omega, fun c4 => ⟨by omega, rO_n ro p0.1, by omega, rO_n ro p0.1, by omega, qn hP ?_⟩, fun c4 => absurd c4 (by omega)⟩⟩, fun c2 => qn hP ?_⟩⟩
  · unfold pcV; rw [if_neg (by omega)]
  · unfold pcV; rw [if_pos ⟨by omega, c2⟩, rO_sz ro p1, rO_sz ro p2]; rfl
  · unfold pcV; rw [if_neg (by rw [c2]; simp)]
theorem c_pairedWith {X : gv_X} {d : Nat} {G : gv_Sh} {A : Nat → Nat → Nat} {j : Nat → Nat → Int64} {cc : gv_Rs} {p : Nat} {q : Nat} {r : Nat} {R : Nat → Nat} (hp0 : oX11 G 0) (p0 : cK A R) (p1 : p < R 0) (p2 : q < R 0) (p3 : r < 256) : Ev X (d + 4) gvm_168 0 (gv_enter [.ref 0, .int (nI p), .int (nI q), .int (nI r)] 5) [] (G, (mI A, j), cc) (.inl (some (.int (nI (pcV R (A 262) p q r)))), (G, (mI A, j), cc)) := evp_det (c_pairedWith_p hp0 p0 p1 p2 p3 rfl)
theorem w167 {X : gv_X} {d : Nat} {G : gv_Sh} {A : Nat → Nat → Nat} {j : Nat → Nat → Int64} {cc : gv_Rs} {P : gv_O × gv_S → Prop}  (hp0 : oX11 G 0) (H : EvP X (d + 5) gvm_167 9 [some (.ref 0), some (.int (nI 1)), none, none, none, none] [] (G, (mI (gu A 262 0 0), j), cc) P) : EvP X (d + 5) gvm_167 0 (gv_enter [.ref 0] 6) [] (G, (mI A, j), cc) P :=
  (pv_aload_n rfl rfl   (pv_getP rfl rfl (oX11_k hp0) (oX11_14 hp0)   (pn_iconst rfl rfl   (pn_iconst rfl rfl   (pn_iast rfl (oX11_14c hp0) (by decide) (by decide)  (pn_iconst rfl rfl   (pv_istore_n rfl rfl   H)))))))
theorem w167_9 {X : gv_X} {d : Nat} {G : gv_Sh} {A : Nat → Nat → Nat} {j : Nat → Nat → Int64} {cc : gv_Rs} {P : gv_O × gv_S → Prop} {l1 : Nat} {l2 : Option Value} {l3 : Option Value} {l4 : Option Value} {l5 : Option Value} (hp0 : oX11 G 0) (H : ((A 3 0) < 32) ∧ (((((2 ^ (A 3 0)) + 2147483648) % 4294967296 ≤ (l1 + 2147483648) % 4294967296) → P (.inl none, (G, (mI A, j), cc))) ∧ (((l1 + 2147483648) % 4294967296 < ((2 ^ (A 3 0)) + 2147483648) % 4294967296) → (((256 + 2147483648) % 4294967296 ≤ (l1 + 2147483648) % 4294967296) → P (.inl none, (G, (mI A, j), cc))) ∧ (((l1 + 2147483648) % 4294967296 < (256 + 2147483648) % 4294967296) → (0 < l1) ∧ ((l1 < 256) ∧ ((1 ≤ l1) ∧ (((l1 &&& (l1 - 1)) < 256) ∧ (EvP X (d + 5) gvm_167 59 [some (.ref 0), some (.int (nI l1)), some (.int (nI (tzN l1))), some (.int (nI (l1 &&& (l1 - 1)))), some (.int (nI (A 262 (l1 &&& (l1 - 1))))), some (.int (nI ((tzN l1) + 1)))] [] (G, (mI A, j), cc) P)))))))) : EvP X (d + 5) gvm_167 9 [some (.ref 0), some (.int (nI l1)), l2, l3, l4, l5] [] (G, (mI A, j), cc) P :=
  (pv_iload_n rfl rfl   (pn_iconst rfl rfl   (pv_aload_n rfl rfl   (pv_getP rfl rfl (oX11_k hp0) (oX11_3 hp0)   (pv_getP rfl rfl (oX10_k (oX11_3c hp0)) (oX10_0 (oX11_3c hp0))   (pn_getI rfl rfl (oX6_k (oX10_0c (oX11_3c hp0))) rfl   (pn_ishl1 rfl H.1  (pn_ic_gew rfl  (fun c1 => (pv_vret rfl (H.2.1 c1))) (fun c1 => (pv_iload_n rfl rfl   (pv_aload_n rfl rfl   (pv_getP rfl rfl (oX11_k hp0) (oX11_14 hp0)   (pv_alen rfl (oX11_14c hp0)   (pn_ic_gew rfl  (fun c2 => (pv_vret rfl ((H.2.2 c1).1 c2))) (fun c2 => (pv_aload_n rfl rfl   (pv_iload_n rfl rfl   (pv_virt rfl rfl rfl rfl rfl (oX11_k hp0) rfl rfl rfl (c_lowest (s := l1) (A := A) hp0 ((H.2.2 c1).2 c2).1 ((H.2.2 c1).2 c2).2.1 ) (pv_istore_n rfl rfl   (pv_iload_n rfl rfl   (pv_iload_n rfl rfl   (pn_iconst rfl rfl   (pn_isub rfl ((H.2.2 c1).2 c2).2.2.1  (pn_iand rfl   (pv_istore_n rfl rfl   (pv_aload_n rfl rfl   (pv_getP rfl rfl (oX11_k hp0) (oX11_14 hp0)   (pv_iload_n rfl rfl   (pn_iald rfl (oX11_14c hp0) (by decide) ((H.2.2 c1).2 c2).2.2.2.1 rfl (pv_istore rfl rfl   (pv_iload_n rfl rfl   (pn_iconst rfl rfl   (pn_iadd rfl   (pv_istore rfl rfl   ((H.2.2 c1).2 c2).2.2.2.2))))))))))))))))))))))))))))))))))
theorem w167_59 {X : gv_X} {d : Nat} {G : gv_Sh} {A : Nat → Nat → Nat} {j : Nat → Nat → Int64} {cc : gv_Rs} {P : gv_O × gv_S → Prop} {l1 : Nat} {l2 : Nat} {l3 : Nat} {l4 : Nat} {l5 : Nat} {R : Nat → Nat} (hp0 : oX11 G 0) (H : ((((A 3 0) + 2147483648) % 4294967296 ≤ (l5 + 2147483648) % 4294967296) → (l1 < 256) ∧ (EvP X (d + 5) gvm_167 9 [some (.ref 0), some (.int (nI (l1 + 1))), some (.int (nI l2)), some (.int (nI l3)), some (.int (nI l4)), some (.int (nI l5))] [] (G, (mI (gu A 262 l1 l4), j), cc) P)) ∧ (((l5 + 2147483648) % 4294967296 < ((A 3 0) + 2147483648) % 4294967296) → (cK A R) ∧ ((l2 < R 0) ∧ ((l5 < R 0) ∧ ((l3 < 256) ∧ (EvP X (d + 5) gvm_167 59 [some (.ref 0), some (.int (nI l1)), some (.int (nI l2)), some (.int (nI l3)), some (.int (nI (smax l4 (pcV R (A 262) l2 l5 l3)))), some (.int (nI (l5 + 1)))] [] (G, (mI A, j), cc) P)))))) : EvP X (d + 5) gvm_167 59 [some (.ref 0), some (.int (nI l1)), some (.int (nI l2)), some (.int (nI l3)), some (.int (nI l4)), some (.int (nI l5))] [] (G, (mI A, j), cc) P :=
  (pv_iload rfl rfl   (pv_aload_n rfl rfl   (pv_getP rfl rfl (oX11_k hp0) (oX11_3 hp0)   (pv_getP rfl rfl (oX10_k (oX11_3c hp0)) (oX10_0 (oX11_3c hp0))   (pn_getI rfl rfl (oX6_k (oX10_0c (oX11_3c hp0))) rfl   (pn_ic_gew rfl  (fun c1 => (pv_aload_n rfl rfl   (pv_getP rfl rfl (oX11_k hp0) (oX11_14 hp0)   (pv_iload_n rfl rfl   (pv_iload rfl rfl   (pn_iast rfl (oX11_14c hp0) (by decide) (H.1 c1).1  (pn_iinc rfl rfl rfl rfl   (pv_goto rfl (H.1 c1).2)))))))) (fun c1 => (pv_iload rfl rfl   (pv_aload_n rfl rfl   (pv_iload_n rfl rfl   (pv_iload rfl rfl   (pv_iload_n rfl rfl   (pv_virt rfl rfl rfl rfl rfl (oX11_k hp0) rfl rfl rfl (c_pairedWith (p := l2) (q := l5) (r := l3) (R := R) (A := A) hp0 (H.2 c1).1 (H.2 c1).2.1 (H.2 c1).2.2.1 (H.2 c1).2.2.2.1 ) (pv_stat rfl rfl rfl rfl rfl rfl rfl rfl (k_maxs (a := l4) (b := (pcV R (A 262) l2 l5 l3)) (A := A)  ) (pv_istore rfl rfl   (pn_iinc rfl rfl rfl rfl   (pv_goto rfl (H.2 c1).2.2.2.2)))))))))))))))))
theorem c_pairSets_p {X : gv_X} {d : Nat} {G : gv_Sh} {A : Nat → Nat → Nat} {j : Nat → Nat → Int64} {cc : gv_Rs} {P : gv_O × gv_S → Prop} {R : Nat → Nat} (hp0 : oX11 G 0) (p0 : cK A R) (hP : ∀ A1 : Nat → Nat → Nat, (∀ q, q ≠ 262 → A1 q = A q) ∧ (∀ s, s < 2 ^ R 0 → A1 262 s = paT R (2 ^ R 0 - 1) s) → P (.inl none, (G, (mI A1, j), cc))) : EvP X (d + 5) gvm_167 0 (gv_enter [.ref 0] 6) [] (G, (mI A, j), cc) P := by
  have n := okW_n p0.1
  have e0 : A 3 0 = R 0 := p0.2.1.1.1
  have pl := pow_le8 n.1
  have pg : 1 ≤ 2 ^ R 0 := Nat.pow_pos (by decide)
  have Lp : ∀ i k B l2 l3 l4 l5, k + 1 + i = 2 ^ R 0 → (∀ q, q ≠ 262 → B q = A q) → (∀ x, x ≤ k → B 262 x = paT R k x) → EvP X (d + 5) gvm_167 9 [some (.ref 0), some (.int (nI (k + 1))), l2, l3, l4, l5] [] (G, (mI B, j), cc) P := by
    intro i
    induction i with
    | zero =>
      intro k B l2 l3 l4 l5 hk hB hK
      have h := w167_9 (X := X) (d := d) (G := G) (A := B) (j := j) (cc := cc) (P := P) (l1 := k + 1) (l2 := l2) (l3 := l3) (l4 := l4) (l5 := l5) hp0
      rw [hB 3 (by decide), e0] at h
      refine h ⟨by omega, fun c1 => hP B ⟨hB, fun s hs => ?_⟩, fun c1 => absurd c1 (by omega)⟩
      rw [show 2 ^ R 0 - 1 = k by omega]; exact hK s (by omega)
    | succ i ih =>
      intro k B l2 l3 l4 l5 hk hB hK
      have hs : k + 1 < 256 := by omega
      obtain ⟨o1, o2, o3⟩ := oth_lt hs (Nat.succ_pos k)
      have ht : ∀ x, x < k + 1 → B 262 x ≤ 6 * x := fun x hx => by rw [hK x (by omega)]; exact paT_le p0.1 k (by omega) x (by omega)
      have tn := tz_n (R 0) (by omega) (k + 1) hs
      simp only [Bool.or_eq_true, Bool.not_eq_true', decide_eq_false_iff_not, decide_eq_true_eq] at tn
      have tn : tzN (k + 1) < R 0 := by omega
      have e3 : B 3 0 = R 0 := by rw [hB 3 (by decide), e0]
      have h0 := ht (oth (k + 1)) o1
      have In : ∀ i o, o + i = R 0 → EvP X (d + 5) gvm_167 59 [some (.ref 0), some (.int (nI (k + 1))), some (.int (nI (tzN (k + 1)))), some (.int (nI (oth (k + 1)))), some (.int (nI (pmN R (B 262) (k + 1) o))), some (.int (nI o))] [] (G, (mI B, j), cc) P := by
        intro i2
        induction i2 with
        | zero =>
          intro o ho
          obtain rfl : o = R 0 := by omega
          refine w167_59 (R := R) hp0 ⟨fun c1 => ⟨hs, ih (k + 1) _ _ _ _ _ (by omega) (fun q hq => (gu_row hq).trans (hB q hq)) (fun x hx => ?_)⟩, fun c1 => absurd c1 (by omega)⟩
          by_cases hxk : x = k + 1
          · subst hxk
            rw [gu_hit, pmN_t (by omega) (by omega) (fun y hy => hK y (by omega))]
            show _ = if k + 1 = k + 1 then _ else _
            rw [if_pos rfl]
          · rw [gu_k hxk rfl, hK x (by omega)]
            show _ = if x = k + 1 then _ else paT R k x
            rw [if_neg hxk]
        | succ i2 ih2 =>
          intro o ho
          have q := ih2 (o + 1) (by omega)
          rw [show pmN R (B 262) (k + 1) (o + 1) = smax (pmN R (B 262) (k + 1) o) (pbV R (B 262) (k + 1) o) from rfl, ← pcV_b (by omega)] at q
          exact w167_59 (R := R) hp0 ⟨fun c1 => absurd c1 (by omega), fun c1 => ⟨(cK_t p0 hB).1, tn, by omega, by omega, q⟩⟩
      have h := w167_9 (X := X) (d := d) (G := G) (A := B) (j := j) (cc := cc) (P := P) (l1 := k + 1) (l2 := l2) (l3 := l3) (l4 := l4) (l5 := l5) hp0
      rw [e3, ← o2] at h
      have st := In (R 0 - (tzN (k + 1) + 1)) (tzN (k + 1) + 1) (by omega)
      rw [pm_lo hs (Nat.succ_pos k) (by omega) _ (Nat.le_refl _) (by omega)] at st
      exact h ⟨by omega, fun c1 => absurd c1 (by omega), fun c1 => ⟨fun c2 => absurd c2 (by omega), fun c2 => ⟨by omega, by omega, by omega, by omega, st⟩⟩⟩
  refine w167 hp0 (Lp (2 ^ R 0 - 1) 0 _ _ _ _ _ (by omega) (fun q hq => gu_row hq) (fun x hx => ?_))
  obtain rfl : x = 0 := by omega
  rw [gu_hit]; rfl
theorem c_pairSets {X : gv_X} {d : Nat} {G : gv_Sh} {A : Nat → Nat → Nat} {j : Nat → Nat → Int64} {cc : gv_Rs} {R : Nat → Nat} (hp0 : oX11 G 0) (p0 : cK A R) : ∃ A1 : Nat → Nat → Nat, Ev X (d + 5) gvm_167 0 (gv_enter [.ref 0] 6) [] (G, (mI A, j), cc) (.inl none, (G, (mI A1, j), cc)) ∧ (∀ q, q ≠ 262 → A1 q = A q) ∧ (∀ s, s < 2 ^ R 0 → A1 262 s = paT R (2 ^ R 0 - 1) s) := by
  obtain ⟨_, h, A1, rfl, hp⟩ := c_pairSets_p (X := X) (d := d) (G := G) (A := A) (j := j) (cc := cc) (R := R) (P := fun r => ∃ A1 : Nat → Nat → Nat, r = (.inl none, (G, (mI A1, j), cc)) ∧ (∀ q, q ≠ 262 → A1 q = A q) ∧ (∀ s, s < 2 ^ R 0 → A1 262 s = paT R (2 ^ R 0 - 1) s)) hp0 p0 (fun A1 h => ⟨A1, rfl, h⟩)
  exact ⟨A1, h, hp⟩
theorem w172 {X : gv_X} {d : Nat} {G : gv_Sh} {A : Nat → Nat → Nat} {j : Nat → Nat → Int64} {cc : gv_Rs} {P : gv_O × gv_S → Prop} {p : Nat} {r : Nat} {m : Nat} (hp0 : oX11 G 0) (H : EvP X (d + 5) gvm_172 5 [some (.ref 0), some (.int (nI p)), some (.int (nI r)), some (.int (nI m)), some (.int (nI (p + 1)))] [] (G, (mI A, j), cc) P) : EvP X (d + 5) gvm_172 0 (gv_enter [.ref 0, .int (nI p), .int (nI r), .int (nI m)] 5) [] (G, (mI A, j), cc) P :=
  (pv_iload_n rfl rfl   (pn_iconst rfl rfl   (pn_iadd rfl   (pv_istore rfl rfl   H))))
theorem w172_5 {X : gv_X} {d : Nat} {G : gv_Sh} {A : Nat → Nat → Nat} {j : Nat → Nat → Int64} {cc : gv_Rs} {P : gv_O × gv_S → Prop} {p : Nat} {r : Nat} {m : Nat} {l4 : Nat} {R : Nat → Nat} (hp0 : oX11 G 0) (H : (l4 < 2147483648) ∧ (((A 3 0) < 2147483648) ∧ ((((A 3 0) ≤ l4) → P (.inl (some (.int (nI 4294967295))), (G, (mI A, j), cc))) ∧ ((l4 < (A 3 0)) → (cK A R) ∧ ((p < R 0) ∧ ((l4 < R 0) ∧ ((r < 256) ∧ (((pcV R (A 262) p l4 r) < 4294967296) ∧ ((m < 4294967296) ∧ (((¬ (pcV R (A 262) p l4 r) = m) → EvP X (d + 5) gvm_172 5 [some (.ref 0), some (.int (nI p)), some (.int (nI r)), some (.int (nI m)), some (.int (nI (l4 + 1)))] [] (G, (mI A, j), cc) P) ∧ (((pcV R (A 262) p l4 r) = m) → P (.inl (some (.int (nI l4))), (G, (mI A, j), cc))))))))))))) : EvP X (d + 5) gvm_172 5 [some (.ref 0), some (.int (nI p)), some (.int (nI r)), some (.int (nI m)), some (.int (nI l4))] [] (G, (mI A, j), cc) P :=
  (pv_iload rfl rfl   (pv_aload_n rfl rfl   (pv_getP rfl rfl (oX11_k hp0) (oX11_3 hp0)   (pv_getP rfl rfl (oX10_k (oX11_3c hp0)) (oX10_0 (oX11_3c hp0))   (pn_getI rfl rfl (oX6_k (oX10_0c (oX11_3c hp0))) rfl   (pn_ic_ge rfl H.1 H.2.1 (fun c1 => (pn_iconst (u := 4294967295) rfl (by decide)   (pv_ireti rfl rfl (H.2.2.1 c1)))) (fun c1 => (pv_aload_n rfl rfl   (pv_iload_n rfl rfl   (pv_iload rfl rfl   (pv_iload_n rfl rfl   (pv_virt rfl rfl rfl rfl rfl (oX11_k hp0) rfl rfl rfl (c_pairedWith (p := p) (q := l4) (r := r) (R := R) (A := A) hp0 (H.2.2.2 c1).1 (H.2.2.2 c1).2.1 (H.2.2.2 c1).2.2.1 (H.2.2.2 c1).2.2.2.1 ) (pv_iload_n rfl rfl   (pn_ic_ne rfl (H.2.2.2 c1).2.2.2.2.1 (H.2.2.2 c1).2.2.2.2.2.1 (fun c2 => (pn_iinc rfl rfl rfl rfl   (pv_goto rfl ((H.2.2.2 c1).2.2.2.2.2.2.1 c2)))) (fun c2 => (pv_iload rfl rfl   (pv_ireti rfl rfl ((H.2.2.2 c1).2.2.2.2.2.2.2 c2))))))))))))))))))
theorem c_firstPartner_p {X : gv_X} {d : Nat} {G : gv_Sh} {A : Nat → Nat → Nat} {j : Nat → Nat → Int64} {cc : gv_Rs} {P : gv_O × gv_S → Prop} {p : Nat} {r : Nat} {m : Nat} {R : Nat → Nat} (hp0 : oX11 G 0) (p0 : cK A R) (p1 : p < R 0) (p2 : r < 256) (p3 : m < 4294967296) (p4 : ∀ x, x ≤ r → A 262 x < 4000) (hP : P (.inl (some (.int (nI (fpV R (A 262) p r m)))), (G, (mI A, j), cc))) : EvP X (d + 5) gvm_172 0 (gv_enter [.ref 0, .int (nI p), .int (nI r), .int (nI m)] 5) [] (G, (mI A, j), cc) P := by
  have n := okW_n p0.1
  have e0 : A 3 0 = R 0 := p0.2.1.1.1
  have Lp : ∀ i k, k + i = R 0 → p < k → lstN (fun o => decide (pcV R (A 262) p o r = m)) i k = lstN (fun o => decide (pcV R (A 262) p o r = m)) (R 0 - (p + 1)) (p + 1) → EvP X (d + 5) gvm_172 5 [some (.ref 0), some (.int (nI p)), some (.int (nI r)), some (.int (nI m)), some (.int (nI k))] [] (G, (mI A, j), cc) P := by
    intro i
    induction i with
    | zero =>
      intro k hk hp hl
      have hl : k = lstN (fun o => decide (pcV R (A 262) p o r = m)) (R 0 - (p + 1)) (p + 1) := hl
      refine w172_5 (R := R) hp0 ⟨by omega, by omega, fun c1 => qn hP ?_, fun c1 => absurd c1 (by omega)⟩
      unfold fpV; rw [if_pos (by omega)]
    | succ i ih =>
      intro k hk hp hl
      have ls : lstN (fun o => decide (pcV R (A 262) p o r = m)) (i + 1) k = if decide (pcV R (A 262) p k r = m) = true then k else lstN (fun o => decide (pcV R (A 262) p o r = m)) i (k + 1) := rfl
      have pb : pcV R (A 262) p k r < 4294967296 := by
        have a := (okW_o p0.1 (p := p) (by omega)).1
        have b := (okW_o p0.1 (p := k) (by omega)).1
        have c := p4 (out r k) (out_le r k)
        unfold pcV; split <;> omega
      refine w172_5 (R := R) hp0 ⟨by omega, by omega, fun c1 => absurd c1 (by omega), fun c1 => ⟨p0, p1, by omega, p2, pb, p3, fun c2 => ih (k + 1) (by omega) (by omega) ?_, fun c2 => qn hP ?_⟩⟩
      · rw [← hl, ls, decide_eq_false c2, if_neg (by decide)]
      · rw [ls, decide_eq_true c2, if_pos rfl] at hl
        unfold fpV; rw [← hl, if_neg (by omega)]
  exact w172 hp0 (Lp _ (p + 1) (by omega) (by omega) rfl)
theorem c_firstPartner {X : gv_X} {d : Nat} {G : gv_Sh} {A : Nat → Nat → Nat} {j : Nat → Nat → Int64} {cc : gv_Rs} {p : Nat} {r : Nat} {m : Nat} {R : Nat → Nat} (hp0 : oX11 G 0) (p0 : cK A R) (p1 : p < R 0) (p2 : r < 256) (p3 : m < 4294967296) (p4 : ∀ x, x ≤ r → A 262 x < 4000) : Ev X (d + 5) gvm_172 0 (gv_enter [.ref 0, .int (nI p), .int (nI r), .int (nI m)] 5) [] (G, (mI A, j), cc) (.inl (some (.int (nI (fpV R (A 262) p r m)))), (G, (mI A, j), cc)) := evp_det (c_firstPartner_p hp0 p0 p1 p2 p3 p4 rfl)
theorem w171 {X : gv_X} {d : Nat} {G : gv_Sh} {A : Nat → Nat → Nat} {j : Nat → Nat → Int64} {cc : gv_Rs} {P : gv_O × gv_S → Prop} {p : Nat} {s : Nat} (hp0 : oX11 G 0) (H : EvP X (d + 6) gvm_171 5 [some (.ref 0), some (.int (nI p)), some (.int (nI s)), some (.int (nI s)), some (.int (nI 0)), none, none, none] [] (G, (mI A, j), cc) P) : EvP X (d + 6) gvm_171 0 (gv_enter [.ref 0, .int (nI p), .int (nI s)] 8) [] (G, (mI A, j), cc) P :=
  (pv_iload_n rfl rfl   (pv_istore_n rfl rfl   (pn_iconst rfl rfl   (pv_istore rfl rfl   H))))
theorem w171_5 {X : gv_X} {d : Nat} {G : gv_Sh} {A : Nat → Nat → Nat} {j : Nat → Nat → Int64} {cc : gv_Rs} {P : gv_O × gv_S → Prop} {p : Nat} {s : Nat} {l3 : Nat} {l4 : Nat} {l5 : Option Value} {l6 : Option Value} {l7 : Option Value} {R : Nat → Nat} (hp0 : oX11 G 0) (H : (l4 < 2147483648) ∧ (((8 ≤ l4) → P (.inl (some (.int (nI 4294967295))), (G, (mI A, j), cc))) ∧ ((l4 < 8) → (l3 < 4294967296) ∧ (((l3 = 0 ∨ 2147483648 ≤ l3) → P (.inl (some (.int (nI 4294967295))), (G, (mI A, j), cc))) ∧ ((0 < l3 ∧ l3 < 2147483648) → (l3 < 2147483648) ∧ (((256 ≤ l3) → P (.inl (some (.int (nI 4294967295))), (G, (mI A, j), cc))) ∧ ((l3 < 256) → (0 < l3) ∧ ((l3 < 256) ∧ ((1 ≤ l3) ∧ (((l3 &&& (l3 - 1)) < 256) ∧ ((l3 < 256) ∧ (((A 262 (l3 &&& (l3 - 1))) < 4294967296) ∧ (((A 262 l3) < 4294967296) ∧ ((((A 262 (l3 &&& (l3 - 1))) = (A 262 l3)) → ((tzN l3) < 4294967296) ∧ ((p < 4294967296) ∧ (((¬ (tzN l3) = p) → (p < 4294967296) ∧ (((¬ 4294967295 = p) → EvP X (d + 6) gvm_171 5 [some (.ref 0), some (.int (nI p)), some (.int (nI s)), some (.int (nI (l3 &&& (l3 - 1)))), some (.int (nI (l4 + 1))), some (.int (nI (tzN l3))), some (.int (nI (l3 &&& (l3 - 1)))), some (.int (nI 4294967295))] [] (G, (mI A, j), cc) P) ∧ ((4294967295 = p) → P (.inl (some (.int (nI (tzN l3)))), (G, (mI A, j), cc))))) ∧ (((tzN l3) = p) → P (.inl (some (.int (nI 4294967295))), (G, (mI A, j), cc)))))) ∧ ((¬ (A 262 (l3 &&& (l3 - 1))) = (A 262 l3)) → (l3 < 256) ∧ ((cK A R) ∧ (((tzN l3) < R 0) ∧ (((l3 &&& (l3 - 1)) < 256) ∧ (((A 262 l3) < 4294967296) ∧ ((∀ x, x ≤ (l3 &&& (l3 - 1)) → A 262 x < 4000) ∧ (((tzN l3) < 4294967296) ∧ ((p < 4294967296) ∧ (((¬ (tzN l3) = p) → ((fpV R (A 262) (tzN l3) (l3 &&& (l3 - 1)) (A 262 l3)) < 4294967296) ∧ ((p < 4294967296) ∧ (((¬ (fpV R (A 262) (tzN l3) (l3 &&& (l3 - 1)) (A 262 l3)) = p) → ((fpV R (A 262) (tzN l3) (l3 &&& (l3 - 1)) (A 262 l3)) < 4294967296) ∧ (((¬ (fpV R (A 262) (tzN l3) (l3 &&& (l3 - 1)) (A 262 l3)) = 4294967295) → ((fpV R (A 262) (tzN l3) (l3 &&& (l3 - 1)) (A 262 l3)) < 32) ∧ (EvP X (d + 6) gvm_171 5 [some (.ref 0), some (.int (nI p)), some (.int (nI s)), some (.int (nI ((l3 &&& (l3 - 1)) &&& ((2 ^ (fpV R (A 262) (tzN l3) (l3 &&& (l3 - 1)) (A 262 l3))) ^^^ 4294967295)))), some (.int (nI (l4 + 1))), some (.int (nI (tzN l3))), some (.int (nI (l3 &&& (l3 - 1)))), some (.int (nI (fpV R (A 262) (tzN l3) (l3 &&& (l3 - 1)) (A 262 l3))))] [] (G, (mI A, j), cc) P)) ∧ (((fpV R (A 262) (tzN l3) (l3 &&& (l3 - 1)) (A 262 l3)) = 4294967295) → EvP X (d + 6) gvm_171 5 [some (.ref 0), some (.int (nI p)), some (.int (nI s)), some (.int (nI (l3 &&& (l3 - 1)))), some (.int (nI (l4 + 1))), some (.int (nI (tzN l3))), some (.int (nI (l3 &&& (l3 - 1)))), some (.int (nI (fpV R (A 262) (tzN l3) (l3 &&& (l3 - 1)) (A 262 l3))))] [] (G, (mI A, j), cc) P))) ∧ (((fpV R (A 262) (tzN l3) (l3 &&& (l3 - 1)) (A 262 l3)) = p) → P (.inl (some (.int (nI (tzN l3)))), (G, (mI A, j), cc)))))) ∧ (((tzN l3) = p) → P (.inl (some (.int (nI (fpV R (A 262) (tzN l3) (l3 &&& (l3 - 1)) (A 262 l3))))), (G, (mI A, j), cc)))))))))))))))))))))))))) : EvP X (d + 6) gvm_171 5 [some (.ref 0), some (.int (nI p)), some (.int (nI s)), some (.int (nI l3)), some (.int (nI l4)), l5, l6, l7] [] (G, (mI A, j), cc) P :=
  (pv_iload rfl rfl   (pn_bipush rfl rfl   (pn_ic_ge rfl H.1 (by decide) (fun c1 => (pn_iconst (u := 4294967295) rfl (by decide)   (pv_ireti rfl rfl (H.2.1 c1)))) (fun c1 => (pv_iload_n rfl rfl   (pn_if_le rfl (H.2.2 c1).1 (fun c2 => (pn_iconst (u := 4294967295) rfl (by decide)   (pv_ireti rfl rfl ((H.2.2 c1).2.1 c2)))) (fun c2 => (pv_iload_n rfl rfl   (pv_aload_n rfl rfl   (pv_getP rfl rfl (oX11_k hp0) (oX11_14 hp0)   (pv_alen rfl (oX11_14c hp0)   (pn_ic_ge rfl ((H.2.2 c1).2.2 c2).1 (by decide) (fun c3 => (pn_iconst (u := 4294967295) rfl (by decide)   (pv_ireti rfl rfl (((H.2.2 c1).2.2 c2).2.1 c3)))) (fun c3 => (pv_aload_n rfl rfl   (pv_iload_n rfl rfl   (pv_virt rfl rfl rfl rfl rfl (oX11_k hp0) rfl rfl rfl (c_lowest (s := l3) (A := A) hp0 (((H.2.2 c1).2.2 c2).2.2 c3).1 (((H.2.2 c1).2.2 c2).2.2 c3).2.1 ) (pv_istore rfl rfl   (pv_iload_n rfl rfl   (pv_iload_n rfl rfl   (pn_iconst rfl rfl   (pn_isub rfl (((H.2.2 c1).2.2 c2).2.2 c3).2.2.1  (pn_iand rfl   (pv_istore rfl rfl   (pn_iconst (u := 4294967295) rfl (by decide)   (pv_istore rfl rfl   (pv_aload_n rfl rfl   (pv_getP rfl rfl (oX11_k hp0) (oX11_14 hp0)   (pv_iload rfl rfl   (pn_iald rfl (oX11_14c hp0) (by decide) (((H.2.2 c1).2.2 c2).2.2 c3).2.2.2.1 rfl (pv_aload_n rfl rfl   (pv_getP rfl rfl (oX11_k hp0) (oX11_14 hp0)   (pv_iload_n rfl rfl   (pn_iald rfl (oX11_14c hp0) (by decide) (((H.2.2 c1).2.2 c2).2.2 c3).2.2.2.2.1 rfl (pn_ic_eq rfl (((H.2.2 c1).2.2 c2).2.2 c3).2.2.2.2.2.1 (((H.2.2 c1).2.2 c2).2.2 c3).2.2.2.2.2.2.1 (fun c4 => (pv_iload rfl rfl   (pv_iload_n rfl rfl   (pn_ic_ne rfl ((((H.2.2 c1).2.2 c2).2.2 c3).2.2.2.2.2.2.2.1 c4).1 ((((H.2.2 c1).2.2 c2).2.2 c3).2.2.2.2.2.2.2.1 c4).2.1 (fun c5 => (pv_iload rfl rfl   (pv_iload_n rfl rfl   (pn_ic_ne rfl (by decide) (((((H.2.2 c1).2.2 c2).2.2 c3).2.2.2.2.2.2.2.1 c4).2.2.1 c5).1 (fun c6 => (pv_iload rfl rfl   (pn_iconst (u := 4294967295) rfl (by decide)   (pn_ic_ne rfl (by decide) (by decide) (fun e => absurd e (by decide)) (fun _ => (pv_iload rfl rfl   (pv_goto rfl (pv_istore_n rfl rfl   (pn_iinc rfl rfl rfl rfl   (pv_goto rfl ((((((H.2.2 c1).2.2 c2).2.2 c3).2.2.2.2.2.2.2.1 c4).2.2.1 c5).2.1 c6))))))))))) (fun c6 => (pv_iload rfl rfl   (pv_ireti rfl rfl ((((((H.2.2 c1).2.2 c2).2.2 c3).2.2.2.2.2.2.2.1 c4).2.2.1 c5).2.2 c6)))))))) (fun c5 => (pv_iload rfl rfl   (pv_ireti rfl rfl (((((H.2.2 c1).2.2 c2).2.2 c3).2.2.2.2.2.2.2.1 c4).2.2.2 c5)))))))) (fun c4 => (pv_aload_n rfl rfl   (pv_iload rfl rfl   (pv_iload rfl rfl   (pv_aload_n rfl rfl   (pv_getP rfl rfl (oX11_k hp0) (oX11_14 hp0)   (pv_iload_n rfl rfl   (pn_iald rfl (oX11_14c hp0) (by decide) ((((H.2.2 c1).2.2 c2).2.2 c3).2.2.2.2.2.2.2.2 c4).1 rfl (pv_virt rfl rfl rfl rfl rfl (oX11_k hp0) rfl rfl rfl (c_firstPartner (p := (tzN l3)) (r := (l3 &&& (l3 - 1))) (m := (A 262 l3)) (R := R) (A := A) hp0 ((((H.2.2 c1).2.2 c2).2.2 c3).2.2.2.2.2.2.2.2 c4).2.1 ((((H.2.2 c1).2.2 c2).2.2 c3).2.2.2.2.2.2.2.2 c4).2.2.1 ((((H.2.2 c1).2.2 c2).2.2 c3).2.2.2.2.2.2.2.2 c4).2.2.2.1 ((((H.2.2 c1).2.2 c2).2.2 c3).2.2.2.2.2.2.2.2 c4).2.2.2.2.1 ((((H.2.2 c1).2.2 c2).2.2 c3).2.2.2.2.2.2.2.2 c4).2.2.2.2.2.1 ) (pv_istore rfl rfl   (pv_iload rfl rfl   (pv_iload_n rfl rfl   (pn_ic_ne rfl ((((H.2.2 c1).2.2 c2).2.2 c3).2.2.2.2.2.2.2.2 c4).2.2.2.2.2.2.1 ((((H.2.2 c1).2.2 c2).2.2 c3).2.2.2.2.2.2.2.2 c4).2.2.2.2.2.2.2.1 (fun c8 => (pv_iload rfl rfl   (pv_iload_n rfl rfl   (pn_ic_ne rfl (((((H.2.2 c1).2.2 c2).2.2 c3).2.2.2.2.2.2.2.2 c4).2.2.2.2.2.2.2.2.1 c8).1 (((((H.2.2 c1).2.2 c2).2.2 c3).2.2.2.2.2.2.2.2 c4).2.2.2.2.2.2.2.2.1 c8).2.1 (fun c9 => (pv_iload rfl rfl   (pn_iconst (u := 4294967295) rfl (by decide)   (pn_ic_ne rfl ((((((H.2.2 c1).2.2 c2).2.2 c3).2.2.2.2.2.2.2.2 c4).2.2.2.2.2.2.2.2.1 c8).2.2.1 c9).1 (by decide) (fun c10 => (pv_iload rfl rfl   (pn_iconst rfl rfl   (pv_iload rfl rfl   (pn_ishl1 rfl (((((((H.2.2 c1).2.2 c2).2.2 c3).2.2.2.2.2.2.2.2 c4).2.2.2.2.2.2.2.2.1 c8).2.2.1 c9).2.1 c10).1  (pn_iconst (u := 4294967295) rfl (by decide)   (pn_ixor rfl   (pn_iand rfl   (pv_istore_n rfl rfl   (pn_iinc rfl rfl rfl rfl   (pv_goto rfl (((((((H.2.2 c1).2.2 c2).2.2 c3).2.2.2.2.2.2.2.2 c4).2.2.2.2.2.2.2.2.1 c8).2.2.1 c9).2.1 c10).2))))))))))) (fun c10 => (pv_iload rfl rfl   (pv_goto rfl (pv_istore_n rfl rfl   (pn_iinc rfl rfl rfl rfl   (pv_goto rfl (((((((H.2.2 c1).2.2 c2).2.2 c3).2.2.2.2.2.2.2.2 c4).2.2.2.2.2.2.2.2.1 c8).2.2.1 c9).2.2 c10))))))))))) (fun c9 => (pv_iload rfl rfl   (pv_ireti rfl rfl ((((((H.2.2 c1).2.2 c2).2.2 c3).2.2.2.2.2.2.2.2 c4).2.2.2.2.2.2.2.2.1 c8).2.2.2 c9)))))))) (fun c8 => (pv_iload rfl rfl   (pv_ireti rfl rfl (((((H.2.2 c1).2.2 c2).2.2 c3).2.2.2.2.2.2.2.2 c4).2.2.2.2.2.2.2.2.2 c8)))))))))))))))))))))))))))))))))))))))))))))))))))
theorem c_partnerOf_p {X : gv_X} {d : Nat} {G : gv_Sh} {A : Nat → Nat → Nat} {j : Nat → Nat → Int64} {cc : gv_Rs} {P : gv_O × gv_S → Prop} {p : Nat} {s : Nat} {R : Nat → Nat} (hp0 : oX11 G 0) (p0 : cK A R) (p1 : p < R 0) (p2 : s = 2 ^ R 0 - 1) (p3 : ∀ x, x < 2 ^ R 0 → A 262 x = paT R (2 ^ R 0 - 1) x) (hP : P (.inl (some (.int (nI (paW R (paT R (2 ^ R 0 - 1)) 8 (2 ^ R 0 - 1) p)))), (G, (mI A, j), cc))) : EvP X (d + 6) gvm_171 0 (gv_enter [.ref 0, .int (nI p), .int (nI s)] 8) [] (G, (mI A, j), cc) P := by
  have n := okW_n p0.1
  have pl := pow_le8 n.1
  have pg : 1 ≤ 2 ^ R 0 := Nat.pow_pos (by decide)
  have Lp : ∀ i k u l5 l6 l7, k + i = 8 → u < 2 ^ R 0 → u / 2 ^ p % 2 = 1 → bcN u ≤ i → paW R (paT R (2 ^ R 0 - 1)) i u p = paW R (paT R (2 ^ R 0 - 1)) 8 (2 ^ R 0 - 1) p → EvP X (d + 6) gvm_171 5 [some (.ref 0), some (.int (nI p)), some (.int (nI s)), some (.int (nI u)), some (.int (nI k)), l5, l6, l7] [] (G, (mI A, j), cc) P := by
    intro i
    induction i with
    | zero =>
      intro k u l5 l6 l7 hk hu hb hi hv
      have := (bt_1 (by omega) (by omega) hb).2.1
      omega
    | succ i ih =>
      intro k u l5 l6 l7 hk hu hb hi hv
      obtain ⟨s0, -, s1, s2⟩ := bt_1 (p := p) (by omega) (by omega) hb
      obtain ⟨o1, o2, o3⟩ := oth_lt (s := u) (by omega) s0
      have tl : ∀ x, x < 2 ^ R 0 → (paT R (2 ^ R 0 - 1)) x ≤ 6 * x := fun x hx => paT_le p0.1 _ (by omega) x (by omega)
      have t1 := tl (oth u) (by omega)
      have t2 := tl u hu
      have hfo := foN_ok (R := R) (T := (paT R (2 ^ R 0 - 1))) (s := u) (by omega) (paT_s (by omega) s0 (by omega))
      have e0 : pbV R (paT R (2 ^ R 0 - 1)) u 4294967295 = (paT R (2 ^ R 0 - 1)) (oth u) := if_pos rfl
      have a1 := p3 (oth u) (by omega)
      have a2 := p3 u hu
      have hs' : paW R (paT R (2 ^ R 0 - 1)) (i + 1) u p = if tzN u = p then foN R (paT R (2 ^ R 0 - 1)) u else if foN R (paT R (2 ^ R 0 - 1)) u = p then tzN u else paW R (paT R (2 ^ R 0 - 1)) i (if foN R (paT R (2 ^ R 0 - 1)) u = 4294967295 then oth u else out (oth u) (foN R (paT R (2 ^ R 0 - 1)) u)) p := rfl
      rw [hs'] at hv
      have tn := tz_n (R 0) (by omega) u (by omega)
      simp only [Bool.or_eq_true, Bool.not_eq_true', decide_eq_false_iff_not, decide_eq_true_eq] at tn
      have tn : tzN u < R 0 := by omega
      have h := w171_5 (X := X) (d := d) (G := G) (A := A) (j := j) (cc := cc) (P := P) (p := p) (s := s) (l3 := u) (l4 := k) (l5 := l5) (l6 := l6) (l7 := l7) (R := R) hp0
      rw [← o2, a1, a2] at h
      refine h ⟨by omega, fun c1 => absurd c1 (by omega), fun c1 => ⟨by omega, fun c2 => absurd c2 (by omega), fun c2 => ⟨by omega, fun c3 => absurd c3 (by omega), fun c3 => ⟨by omega, by omega, by omega, by omega, by omega, by omega, by omega, fun c4 => ?_, fun c4 => ?_⟩⟩⟩⟩
      · have ef : foN R (paT R (2 ^ R 0 - 1)) u = 4294967295 := by
          unfold foN; rw [if_pos (e0.trans c4)]
        rw [ef] at hv
        refine ⟨by omega, by omega, fun c5 => ⟨by omega, fun c6 => ?_, fun c6 => absurd c6 (by omega)⟩, fun c5 => ?_⟩
        · rw [if_neg c5, if_neg c6, if_pos rfl] at hv
          exact ih (k + 1) _ _ _ _ (by omega) (by omega) (s2 (fun e => c5 e.symm)) (by omega) hv
        · rw [if_pos c5] at hv; exact qn hP hv.symm
      · have hf : foN R (paT R (2 ^ R 0 - 1)) u < R 0 ∧ pbV R (paT R (2 ^ R 0 - 1)) u (foN R (paT R (2 ^ R 0 - 1)) u) = (paT R (2 ^ R 0 - 1)) u ∧ ¬ pbV R (paT R (2 ^ R 0 - 1)) u 4294967295 = (paT R (2 ^ R 0 - 1)) u := by
          rcases hfo with z | z
          · exact absurd (e0.symm.trans z.2) c4
          · exact z
        have ff : fpV R (A 262) (tzN u) (oth u) ((paT R (2 ^ R 0 - 1)) u) = foN R (paT R (2 ^ R 0 - 1)) u := fp_fo p0.1 (by omega) s0 hf.1 hf.2.1 hf.2.2 t2 (fun x hx => p3 x (by omega))
        rw [ff]
        refine ⟨by omega, p0, tn, by omega, by omega, fun x hx => by rw [p3 x (by omega)]; have := tl x (by omega); omega, by omega, by omega, fun c5 => ⟨by omega, by omega, fun c6 => ⟨by omega, fun c7 => ⟨by omega, ?_⟩, fun c7 => absurd c7 (by omega)⟩, fun c6 => ?_⟩, fun c5 => ?_⟩
        · rw [if_neg c5, if_neg c6, if_neg c7] at hv
          have b1 := s2 (fun e => c5 e.symm)
          have b2 := bt_2 (x := oth u) (o := foN R (paT R (2 ^ R 0 - 1)) u) (by omega) (by omega) (by omega) b1 (fun e => c6 e.symm)
          have b3 := out_le (oth u) (foN R (paT R (2 ^ R 0 - 1)) u)
          exact ih (k + 1) (out (oth u) (foN R (paT R (2 ^ R 0 - 1)) u)) _ _ _ (by omega) (by omega) b2.1 (by omega) hv
        · rw [if_neg c5, if_pos c6] at hv; exact qn hP hv.symm
        · rw [if_pos c5] at hv; exact qn hP hv.symm
  have b5 := of_decide_eq_true (pf_5 (R 0) (by omega) p p1)
  have b8 := bcN_lt (2 ^ R 0 - 1)
  subst p2
  exact w171 hp0 (Lp 8 0 _ _ _ _ rfl (by omega) b5 b8 rfl)
theorem c_partnerOf {X : gv_X} {d : Nat} {G : gv_Sh} {A : Nat → Nat → Nat} {j : Nat → Nat → Int64} {cc : gv_Rs} {p : Nat} {s : Nat} {R : Nat → Nat} (hp0 : oX11 G 0) (p0 : cK A R) (p1 : p < R 0) (p2 : s = 2 ^ R 0 - 1) (p3 : ∀ x, x < 2 ^ R 0 → A 262 x = paT R (2 ^ R 0 - 1) x) : Ev X (d + 6) gvm_171 0 (gv_enter [.ref 0, .int (nI p), .int (nI s)] 8) [] (G, (mI A, j), cc) (.inl (some (.int (nI (paW R (paT R (2 ^ R 0 - 1)) 8 (2 ^ R 0 - 1) p)))), (G, (mI A, j), cc)) := evp_det (c_partnerOf_p hp0 p0 p1 p2 p3 rfl)
