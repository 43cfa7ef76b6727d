/-! rows told -/
def tdF (t : Nat → Nat) (r : Nat) : Bool := decide (t (2 * r) ≤ 6) && decide (t (2 * r + 1) ≤ 10)
def tdB (t : Nat → Nat) (E : Nat) : Bool := decide (E % 2 = 0) && (decide (E ≤ 40) && allN (tdF t) (E / 2))
theorem tdB_t {t : Nat → Nat} {E : Nat} (h : tdB t E = true) : E % 2 = 0 ∧ E ≤ 40 ∧ ∀ r, r < E / 2 → t (2 * r) ≤ 6 ∧ t (2 * r + 1) ≤ 10 := by
  unfold tdB at h
  rw [Bool.and_eq_true, Bool.and_eq_true] at h
  refine ⟨of_decide_eq_true h.1, of_decide_eq_true h.2.1, fun r hr => ?_⟩
  have := allN_iff.mp h.2.2 r hr
  unfold tdF at this
  rw [Bool.and_eq_true] at this
  exact ⟨of_decide_eq_true this.1, of_decide_eq_true this.2⟩
def whF (R T : Nat → Nat) (p w : Nat) : Nat := if w < 2 then R (30 + 9 * p + w) else if w = 6 then R (30 + 9 * p + (3 + 2 * 0)) else T p / 2 ^ (w - 2) % 2
theorem whF_lt {R T : Nat → Nat} (h : okW R) {p w : Nat} (hp : p < 8) : whF R T p w ≤ 10 := by
  unfold whF
  have a := okW_o h hp
  have b := okW_m h hp (k := 0) (by omega)
  split
  · rcases (by omega : w = 0 ∨ w = 1) with rfl | rfl <;> omega
  · split
    · exact b.1
    · omega
def wrN (R T t : Nat → Nat) (E p : Nat) : Nat := cntN (fun r => !decide (whF R T p (t (2 * r)) = t (2 * r + 1))) (E / 2)
def fitN (R T t : Nat → Nat) (E k : Nat) : Nat := bitN (fun p => decide (wrN R T t E p ≤ k)) (R 0)
def ptC (R T : Nat → Nat) (s w v : Nat) : Nat := cntN (fun p => decide (s / 2 ^ p % 2 = 1) && decide (whF R T p w = v)) (R 0)
def ptN (R T : Nat → Nat) (s w : Nat) : Nat → Nat
  | 0 => 0
  | v + 1 => max (ptN R T s w v) (ptC R T s w v)
def askN (R T : Nat → Nat) (s : Nat) : Nat → Nat × Nat
  | 0 => (4294967295, 1000000)
  | w + 1 => (if ptN R T s w 11 < (askN R T s w).2 then w else (askN R T s w).1, min (askN R T s w).2 (ptN R T s w 11))
def spWhich (R t : Nat → Nat) (E : Nat) : Nat × Nat := if tdB t E = true then (0, fitN R (tbF R) t E 1) else (1, 0)
def lkyN (R T t : Nat → Nat) (E : Nat) : Nat := if ¬ fitN R T t E 0 = 0 then fitN R T t E 0 else fitN R T t E 1
def spLikely (R t : Nat → Nat) (E : Nat) : Nat × Nat := if tdB t E = true then (0, if lkyN R (tbF R) t E = 0 then 4294967295 else tzN (lkyN R (tbF R) t E)) else (1, 0)
def spAsk (R t : Nat → Nat) (E : Nat) : Nat × Nat := if tdB t E = true then (0, if 1 < bcN (fitN R (tbF R) t E 1) then (askN R (tbF R) (fitN R (tbF R) t E 1) 7).1 else 4294967295) else (1, 0)
/-- what stays where the tape is used -/
def frV (A B : Nat → Nat → Nat) : Prop := (∀ q, q < 263 ∨ q = 264 ∨ q = 265 ∨ q = 268 ∨ q = 269 ∨ 279 ≤ q → B q = A q) ∧ (∀ k, k = 6 ∨ k = 7 ∨ k = 14 → B 263 k = A 263 k) ∧ B 263 9 = 0
def usA (A : Nat → Nat → Nat) : Nat → Nat → Nat := gu (gu (gu (gu A 263 0 0) 263 11 (A 263 9)) 263 9 0) 263 10 0
theorem usA_V (A : Nat → Nat → Nat) : frV A (usA A) := by
  refine ⟨fun q a => ?_, fun k a => ?_, rfl⟩
  · unfold usA
    rw [gu_ro (by omega), gu_ro (by omega), gu_ro (by omega), gu_ro (by omega)]
  · unfold usA
    rw [gu_k (by omega) rfl, gu_k (by omega) rfl, gu_k (by omega) rfl, gu_k (by omega) rfl]
theorem frV_Q {A B C : Nat → Nat → Nat} (h : frV A B) (h2 : frQ B C) : frV A C := ⟨fun q a => (h2.1 q a).trans (h.1 q a), fun k a => (h2.2 k (by omega)).trans (h.2.1 k a), (h2.2 9 (by omega)).trans h.2.2⟩
theorem w318 {X : gv_X} {d : Nat} {G : gv_Sh} {A : Nat → Nat → Nat} {j : Nat → Nat → Int64} {cc : gv_Rs} {P : gv_O × gv_S → Prop}  (hp263 : oX12 G 263) (H : ((A 263 11) < 2147483648) ∧ ((((A 263 11) % 2) < 4294967296) ∧ (((¬ ((A 263 11) % 2) = 0) → EvP X (d + 1) gvm_318 26 [some (.ref 263), some (.int (nI 0)), some (.int (nI 0))] [] (G, (mI A, j), cc) P) ∧ ((((A 263 11) % 2) = 0) → ((A 263 11) < 2147483648) ∧ (((40 < (A 263 11)) → EvP X (d + 1) gvm_318 26 [some (.ref 263), some (.int (nI 0)), some (.int (nI 0))] [] (G, (mI A, j), cc) P) ∧ (((A 263 11) ≤ 40) → EvP X (d + 1) gvm_318 26 [some (.ref 263), some (.int (nI 1)), some (.int (nI 0))] [] (G, (mI A, j), cc) P)))))) : EvP X (d + 1) gvm_318 0 (gv_enter [.ref 263] 3) [] (G, (mI A, j), cc) P :=
  (pv_aload_n rfl rfl   (pn_getI rfl rfl (oX12_k hp263) rfl   (pn_iconst rfl rfl   (pn_irem rfl H.1 (by decide) (by decide)  (pn_if_ne rfl H.2.1 (fun c1 => (pn_iconst rfl rfl   (pv_istore_n rfl rfl   (pn_iconst rfl rfl   (pv_istore_n rfl rfl   (H.2.2.1 c1)))))) (fun c1 => (pv_aload_n rfl rfl   (pn_getI rfl rfl (oX12_k hp263) rfl   (pn_bipush rfl rfl   (pn_ic_gt rfl (H.2.2.2 c1).1 (by decide) (fun c2 => (pn_iconst rfl rfl   (pv_istore_n rfl rfl   (pn_iconst rfl rfl   (pv_istore_n rfl rfl   ((H.2.2.2 c1).2.1 c2)))))) (fun c2 => (pn_iconst rfl rfl   (pv_goto rfl (pv_istore_n rfl rfl   (pn_iconst rfl rfl   (pv_istore_n rfl rfl   ((H.2.2.2 c1).2.2 c2)))))))))))))))))
theorem w318_26 {X : gv_X} {d : Nat} {G : gv_Sh} {A : Nat → Nat → Nat} {j : Nat → Nat → Int64} {cc : gv_Rs} {P : gv_O × gv_S → Prop} {l1 : Nat} {l2 : Nat} (hp263 : oX12 G 263) (H : (l2 < 2147483648) ∧ (((A 263 11) < 2147483648) ∧ ((((A 263 11) ≤ l2) → ((nI l1) = 0 ∨ (nI l1) = 1) ∧ P (.inl (some (.int (nI l1))), (G, (mI A, j), cc))) ∧ ((l2 < (A 263 11)) → (l1 < 4294967296) ∧ (((l1 = 0) → ((nI l1) = 0 ∨ (nI l1) = 1) ∧ P (.inl (some (.int (nI l1))), (G, (mI A, j), cc))) ∧ ((¬ l1 = 0) → (l2 < 400) ∧ (((A 269 l2) < 4294967296) ∧ (((¬ ((A 269 l2) ≤ 6)) → EvP X (d + 1) gvm_318 26 [some (.ref 263), some (.int (nI 0)), some (.int (nI (l2 + 2)))] [] (G, (mI A, j), cc) P) ∧ (((A 269 l2) ≤ 6) → ((l2 + 1) < 400) ∧ (((A 269 (l2 + 1)) < 4294967296) ∧ (((¬ ((A 269 (l2 + 1)) ≤ 10)) → EvP X (d + 1) gvm_318 26 [some (.ref 263), some (.int (nI 0)), some (.int (nI (l2 + 2)))] [] (G, (mI A, j), cc) P) ∧ (((A 269 (l2 + 1)) ≤ 10) → EvP X (d + 1) gvm_318 26 [some (.ref 263), some (.int (nI 1)), some (.int (nI (l2 + 2)))] [] (G, (mI A, j), cc) P)))))))))))) : EvP X (d + 1) gvm_318 26 [some (.ref 263), some (.int (nI l1)), some (.int (nI l2))] [] (G, (mI A, j), cc) P :=
  (pv_iload_n rfl rfl   (pv_aload_n rfl rfl   (pn_getI rfl rfl (oX12_k hp263) rfl   (pn_ic_ge rfl H.1 H.2.1 (fun c1 => (pv_iload_n rfl rfl   (pv_iretz rfl rfl (H.2.2.1 c1).1 (H.2.2.1 c1).2))) (fun c1 => (pv_iload_n rfl rfl   (pn_if_eq rfl (H.2.2.2 c1).1 (fun c2 => (pv_iload_n rfl rfl   (pv_iretz rfl rfl ((H.2.2.2 c1).2.1 c2).1 ((H.2.2.2 c1).2.1 c2).2))) (fun c2 => (pv_aload_n rfl rfl   (pv_getP rfl rfl (oX12_k hp263) (oX12_8 hp263)   (pv_iload_n rfl rfl   (pn_bald rfl (oX12_8c hp263) (by decide) ((H.2.2.2 c1).2.2 c2).1 rfl (pn_iconst rfl rfl   (pn_bipush rfl rfl   (pv_stat rfl rfl rfl rfl rfl rfl rfl rfl (r_in0 (v := (A 269 l2)) (h := 6) ((H.2.2.2 c1).2.2 c2).2.1 (by decide)) (pv_if_eq_dc rfl  (fun c3 => (pn_iconst rfl rfl   (pv_istore_n rfl rfl   (pn_iinc rfl rfl rfl rfl   (pv_goto rfl (((H.2.2.2 c1).2.2 c2).2.2.1 c3)))))) (fun c3 => (pv_aload_n rfl rfl   (pv_getP rfl rfl (oX12_k hp263) (oX12_8 hp263)   (pv_iload_n rfl rfl   (pn_iconst rfl rfl   (pn_iadd rfl   (pn_bald rfl (oX12_8c hp263) (by decide) (((H.2.2.2 c1).2.2 c2).2.2.2 c3).1 rfl (pn_iconst rfl rfl   (pn_bipush rfl rfl   (pv_stat rfl rfl rfl rfl rfl rfl rfl rfl (r_in0 (v := (A 269 (l2 + 1))) (h := 10) (((H.2.2.2 c1).2.2 c2).2.2.2 c3).2.1 (by decide)) (pv_if_eq_dc rfl  (fun c4 => (pn_iconst rfl rfl   (pv_istore_n rfl rfl   (pn_iinc rfl rfl rfl rfl   (pv_goto rfl ((((H.2.2.2 c1).2.2 c2).2.2.2 c3).2.2.1 c4)))))) (fun c4 => (pn_iconst rfl rfl   (pv_goto rfl (pv_istore_n rfl rfl   (pn_iinc rfl rfl rfl rfl   (pv_goto rfl ((((H.2.2.2 c1).2.2 c2).2.2.2 c3).2.2.2 c4))))))))))))))))))))))))))))))))))
theorem r_areTold_p {X : gv_X} {d : Nat} {G : gv_Sh} {A : Nat → Nat → Nat} {j : Nat → Nat → Int64} {cc : gv_Rs} {P : gv_O × gv_S → Prop}  (hp263 : oX12 G 263) (p0 : A 263 11 ≤ 400) (p1 : ∀ i, i < 400 → A 269 i < 4294967296) (hP : P (.inl (some (.int (zo (tdB (A 269) (A 263 11))))), (G, (mI A, j), cc))) : EvP X (d + 1) gvm_318 0 (gv_enter [.ref 263] 3) [] (G, (mI A, j), cc) P := by
  have L : A 263 11 % 2 = 0 → A 263 11 ≤ 40 → ∀ r, r ≤ A 263 11 / 2 → EvP X (d + 1) gvm_318 26 [some (.ref 263), some (.int (nI (allN (tdF (A 269)) r).toNat)), some (.int (nI (2 * r)))] [] (G, (mI A, j), cc) P := by
    intro h2 h40
    have hD : tdB (A 269) (A 263 11) = allN (tdF (A 269)) (A 263 11 / 2) := by unfold tdB; rw [decide_eq_true h2, decide_eq_true h40]; rfl
    have hF : ∀ r, r ≤ A 263 11 / 2 → allN (tdF (A 269)) r = false → tdB (A 269) (A 263 11) = false := fun r hr e => by
      rw [hD]
      cases hy : allN (tdF (A 269)) (A 263 11 / 2) with
      | false => rfl
      | true => rw [allN_iff.mpr (fun k hk => allN_iff.mp hy k (by omega))] at e; cases e
    refine up_ind (A 263 11 / 2) ?_ ?_
    · refine w318_26 hp263 ⟨by omega, by omega, fun c1 => ⟨nb01 _, qb (qzz hP hD)⟩, fun c1 => by omega⟩
    · intro r hr ih
      have t0 := p1 (2 * r) (by omega)
      have t1 := p1 (2 * r + 1) (by omega)
      have hs : allN (tdF (A 269)) (r + 1) = (allN (tdF (A 269)) r && tdF (A 269) r) := rfl
      cases hy : allN (tdF (A 269)) r with
      | false =>
        refine w318_26 hp263 ⟨by omega, by omega, fun c1 => by omega, fun c1 => ⟨by decide, fun c2 => ⟨Or.inl rfl, qz0 hP (hF r (by omega) hy)⟩, fun c2 => absurd rfl c2⟩⟩
      | true =>
        rw [hs, hy, Bool.true_and] at ih
        unfold tdF at ih
        refine w318_26 hp263 ⟨by omega, by omega, fun c1 => by omega, fun c1 => ⟨by decide, fun c2 => absurd c2 (by decide), fun c2 => ⟨by omega, by omega, fun c3 => ?_, fun c3 => ⟨by omega, by omega, fun c4 => ?_, fun c4 => ?_⟩⟩⟩⟩
        · rw [decide_eq_false c3] at ih; exact ih
        · rw [decide_eq_false c4, Bool.and_false] at ih; exact ih
        · rw [decide_eq_true c3, decide_eq_true c4] at ih; exact ih
  have N : tdB (A 269) (A 263 11) = false → EvP X (d + 1) gvm_318 26 [some (.ref 263), some (.int (nI 0)), some (.int (nI 0))] [] (G, (mI A, j), cc) P := fun e => w318_26 hp263 ⟨by decide, by omega, fun c1 => ⟨Or.inl rfl, qz0 hP e⟩, fun c1 => ⟨by decide, fun c2 => ⟨Or.inl rfl, qz0 hP e⟩, fun c2 => absurd rfl c2⟩⟩
  refine w318 hp263 ⟨by omega, by omega, fun c1 => N ?_, fun c1 => ⟨by omega, fun c2 => N ?_, fun c2 => ?_⟩⟩
  · unfold tdB; rw [decide_eq_false (by omega)]; rfl
  · unfold tdB; rw [decide_eq_false (show ¬ A 263 11 ≤ 40 by omega)]; simp
  · exact L (by omega) (by omega) 0 (by omega)
theorem r_areTold {X : gv_X} {d : Nat} {G : gv_Sh} {A : Nat → Nat → Nat} {j : Nat → Nat → Int64} {cc : gv_Rs}  (hp263 : oX12 G 263) (p0 : A 263 11 ≤ 400) (p1 : ∀ i, i < 400 → A 269 i < 4294967296) : Ev X (d + 1) gvm_318 0 (gv_enter [.ref 263] 3) [] (G, (mI A, j), cc) (.inl (some (.int (zo (tdB (A 269) (A 263 11))))), (G, (mI A, j), cc)) := evp_det (r_areTold_p hp263 p0 p1 rfl)
theorem w319 {X : gv_X} {d : Nat} {G : gv_Sh} {A : Nat → Nat → Nat} {j : Nat → Nat → Int64} {cc : gv_Rs} {P : gv_O × gv_S → Prop} {p : Nat} {w : Nat} {R : Nat → Nat} (hp263 : oX12 G 263) (hR : A 264 = R) (H : (w < 2147483648) ∧ (((2 ≤ w) → (w < 4294967296) ∧ (((¬ w = 6) → (p < 8) ∧ ((2 ≤ w) ∧ (((A 273 p) < 2147483648) ∧ (((w - 2) < 32) ∧ (P (.inl (some (.int (nI (((A 273 p) / 2 ^ (w - 2)) % 2)))), (G, (mI A, j), cc))))))) ∧ ((w = 6) → (((30 + (9 * p)) + (3 + (2 * 0))) < 2066) ∧ (P (.inl (some (.int (nI (R ((30 + (9 * p)) + (3 + (2 * 0))))))), (G, (mI A, j), cc)))))) ∧ ((w < 2) → (((30 + (9 * p)) + w) < 2066) ∧ (P (.inl (some (.int (nI (R ((30 + (9 * p)) + w))))), (G, (mI A, j), cc)))))) : EvP X (d + 3) gvm_319 0 (gv_enter [.ref 263, .int (nI p), .int (nI w)] 3) [] (G, (mI A, j), cc) P :=
  by
  subst hR
  exact (pv_iload_n rfl rfl   (pn_iconst rfl rfl   (pn_ic_ge rfl H.1 (by decide) (fun c1 => (pv_iload_n rfl rfl   (pn_bipush rfl rfl   (pn_ic_ne rfl (H.2.1 c1).1 (by decide) (fun c2 => (pv_aload_n rfl rfl   (pv_getP rfl rfl (oX12_k hp263) (oX12_26 hp263)   (pv_iload_n rfl rfl   (pn_iald rfl (oX12_26c hp263) (by decide) ((H.2.1 c1).2.1 c2).1 rfl (pv_iload_n rfl rfl   (pn_iconst rfl rfl   (pn_isub rfl ((H.2.1 c1).2.1 c2).2.1  (pn_ishr rfl ((H.2.1 c1).2.1 c2).2.2.1 ((H.2.1 c1).2.1 c2).2.2.2.1  (pn_iconst rfl rfl   (pn_iandm 1 2 rfl rfl rfl   (pv_ireti rfl rfl ((H.2.1 c1).2.1 c2).2.2.2.2)))))))))))) (fun c2 => (pv_aload_n rfl rfl   (pv_iload_n rfl rfl   (pn_iconst rfl rfl   (pv_virt rfl rfl rfl rfl rfl (oX12_k hp263) rfl rfl rfl (r_kindOf (p := p) (k := 0) (A := A) hp263 ((H.2.1 c1).2.2 c2).1 ) (pv_goto rfl (pv_ireti rfl rfl ((H.2.1 c1).2.2 c2).2))))))))))) (fun c1 => (pv_aload_n rfl rfl   (pv_iload_n rfl rfl   (pv_iload_n rfl rfl   (pv_virt rfl rfl rfl rfl rfl (oX12_k hp263) rfl rfl rfl (r_of (p := p) (what := w) (A := A) hp263 (H.2.2 c1).1 ) (pv_goto rfl (pv_ireti rfl rfl (H.2.2 c1).2))))))))))
theorem r_whatOf_p {X : gv_X} {d : Nat} {G : gv_Sh} {A : Nat → Nat → Nat} {j : Nat → Nat → Int64} {cc : gv_Rs} {P : gv_O × gv_S → Prop} {p : Nat} {w : Nat} (hp263 : oX12 G 263) (p0 : okW (A 264)) (p1 : p < 8) (p2 : A 273 p < 16) (p3 : w ≤ 6) (hP : P (.inl (some (.int (nI (whF (A 264) (A 273) p w)))), (G, (mI A, j), cc))) : EvP X (d + 3) gvm_319 0 (gv_enter [.ref 263, .int (nI p), .int (nI w)] 3) [] (G, (mI A, j), cc) P := by
  refine w319 hp263 rfl  ⟨by omega, ⟨fun c1 => ⟨by omega, ⟨fun c2 => ⟨by omega, ⟨by omega, ⟨by omega, ⟨by omega, ?_⟩⟩⟩⟩, fun c2 => ⟨by omega, ?_⟩⟩⟩, fun c1 => ⟨by omega, ?_⟩⟩⟩
  · exact qn hP (by unfold whF; rw [if_neg (by omega), if_neg (by omega)])
  · exact qn hP (by unfold whF; rw [if_neg (by omega), if_pos (by omega)])
  · exact qn hP (by unfold whF; rw [if_pos (by omega)])
theorem r_whatOf {X : gv_X} {d : Nat} {G : gv_Sh} {A : Nat → Nat → Nat} {j : Nat → Nat → Int64} {cc : gv_Rs} {p : Nat} {w : Nat} (hp263 : oX12 G 263) (p0 : okW (A 264)) (p1 : p < 8) (p2 : A 273 p < 16) (p3 : w ≤ 6) : Ev X (d + 3) gvm_319 0 (gv_enter [.ref 263, .int (nI p), .int (nI w)] 3) [] (G, (mI A, j), cc) (.inl (some (.int (nI (whF (A 264) (A 273) p w)))), (G, (mI A, j), cc)) := evp_det (r_whatOf_p hp263 p0 p1 p2 p3 rfl)
theorem w320 {X : gv_X} {d : Nat} {G : gv_Sh} {A : Nat → Nat → Nat} {j : Nat → Nat → Int64} {cc : gv_Rs} {P : gv_O × gv_S → Prop} {p : Nat} {R : Nat → Nat} (hp263 : oX12 G 263) (hR : A 264 = R) (H : EvP X (d + 4) gvm_320 4 [some (.ref 263), some (.int (nI p)), some (.int (nI 0)), some (.int (nI 0))] [] (G, (mI A, j), cc) P) : EvP X (d + 4) gvm_320 0 (gv_enter [.ref 263, .int (nI p)] 4) [] (G, (mI A, j), cc) P :=
  by
  subst hR
  exact (pn_iconst rfl rfl   (pv_istore_n rfl rfl   (pn_iconst rfl rfl   (pv_istore_n rfl rfl   H))))
theorem w320_4 {X : gv_X} {d : Nat} {G : gv_Sh} {A : Nat → Nat → Nat} {j : Nat → Nat → Int64} {cc : gv_Rs} {P : gv_O × gv_S → Prop} {p : Nat} {R : Nat → Nat} {l2 : Nat} {l3 : Nat} (hp263 : oX12 G 263) (hR : A 264 = R) (H : (l3 < 2147483648) ∧ (((A 263 11) < 2147483648) ∧ ((((A 263 11) ≤ l3) → P (.inl (some (.int (nI l2))), (G, (mI A, j), cc))) ∧ ((l3 < (A 263 11)) → (l3 < 400) ∧ ((okW R) ∧ ((p < 8) ∧ ((A 273 p < 16) ∧ (((A 269 l3) ≤ 6) ∧ (((l3 + 1) < 400) ∧ (((whF R (A 273) p (A 269 l3)) < 4294967296) ∧ (((A 269 (l3 + 1)) < 4294967296) ∧ (((¬ (whF R (A 273) p (A 269 l3)) = (A 269 (l3 + 1))) → EvP X (d + 4) gvm_320 4 [some (.ref 263), some (.int (nI p)), some (.int (nI (l2 + 1))), some (.int (nI (l3 + 2)))] [] (G, (mI A, j), cc) P) ∧ (((whF R (A 273) p (A 269 l3)) = (A 269 (l3 + 1))) → EvP X (d + 4) gvm_320 4 [some (.ref 263), some (.int (nI p)), some (.int (nI (l2 + 0))), some (.int (nI (l3 + 2)))] [] (G, (mI A, j), cc) P))))))))))))) : EvP X (d + 4) gvm_320 4 [some (.ref 263), some (.int (nI p)), some (.int (nI l2)), some (.int (nI l3))] [] (G, (mI A, j), cc) P :=
  by
  subst hR
  exact (pv_iload_n rfl rfl   (pv_aload_n rfl rfl   (pn_getI rfl rfl (oX12_k hp263) rfl   (pn_ic_ge rfl H.1 H.2.1 (fun c1 => (pv_iload_n rfl rfl   (pv_ireti rfl rfl (H.2.2.1 c1)))) (fun c1 => (pv_iload_n rfl rfl   (pv_aload_n rfl rfl   (pv_iload_n rfl rfl   (pv_aload_n rfl rfl   (pv_getP rfl rfl (oX12_k hp263) (oX12_8 hp263)   (pv_iload_n rfl rfl   (pn_bald rfl (oX12_8c hp263) (by decide) (H.2.2.2 c1).1 rfl (pv_virt rfl rfl rfl rfl rfl (oX12_k hp263) rfl rfl rfl (r_whatOf (p := p) (w := (A 269 l3)) (A := A) hp263 (H.2.2.2 c1).2.1 (H.2.2.2 c1).2.2.1 (H.2.2.2 c1).2.2.2.1 (H.2.2.2 c1).2.2.2.2.1 ) (pv_aload_n rfl rfl   (pv_getP rfl rfl (oX12_k hp263) (oX12_8 hp263)   (pv_iload_n rfl rfl   (pn_iconst rfl rfl   (pn_iadd rfl   (pn_bald rfl (oX12_8c hp263) (by decide) (H.2.2.2 c1).2.2.2.2.2.1 rfl (pn_ic_ne rfl (H.2.2.2 c1).2.2.2.2.2.2.1 (H.2.2.2 c1).2.2.2.2.2.2.2.1 (fun c2 => (pn_iconst rfl rfl   (pn_iadd rfl   (pv_istore_n rfl rfl   (pn_iinc rfl rfl rfl rfl   (pv_goto rfl ((H.2.2.2 c1).2.2.2.2.2.2.2.2.1 c2))))))) (fun c2 => (pn_iconst rfl rfl   (pv_goto rfl (pn_iadd rfl   (pv_istore_n rfl rfl   (pn_iinc rfl rfl rfl rfl   (pv_goto rfl ((H.2.2.2 c1).2.2.2.2.2.2.2.2.2 c2))))))))))))))))))))))))))))
theorem r_wrongRows_p {X : gv_X} {d : Nat} {G : gv_Sh} {A : Nat → Nat → Nat} {j : Nat → Nat → Int64} {cc : gv_Rs} {P : gv_O × gv_S → Prop} {p : Nat} (hp263 : oX12 G 263) (p0 : okW (A 264)) (p1 : p < 8) (p2 : A 273 p < 16) (p3 : A 263 11 % 2 = 0) (p4 : A 263 11 ≤ 40) (p5 : ∀ r, r < A 263 11 / 2 → A 269 (2 * r) ≤ 6 ∧ A 269 (2 * r + 1) ≤ 10) (hP : P (.inl (some (.int (nI (wrN (A 264) (A 273) (A 269) (A 263 11) p)))), (G, (mI A, j), cc))) : EvP X (d + 4) gvm_320 0 (gv_enter [.ref 263, .int (nI p)] 4) [] (G, (mI A, j), cc) P := by
  have L : ∀ r, r ≤ A 263 11 / 2 → EvP X (d + 4) gvm_320 4 [some (.ref 263), some (.int (nI p)), some (.int (nI (cntN (fun r => !decide (whF (A 264) (A 273) p (A 269 (2 * r)) = A 269 (2 * r + 1))) r))), some (.int (nI (2 * r)))] [] (G, (mI A, j), cc) P := by
    refine up_ind (A 263 11 / 2) ?_ ?_
    · refine w320_4 hp263 rfl  ⟨by (first | omega | assumption), ⟨by (first | omega | assumption), ⟨fun c1 => ?_, fun c1 => ⟨by (first | omega | assumption), ⟨by (first | omega | assumption), ⟨by (first | omega | assumption), ⟨by (first | omega | assumption), ⟨by (first | omega | assumption), ⟨by (first | omega | assumption), ⟨by (first | omega | assumption), ⟨by (first | omega | assumption), ⟨fun c2 => ?_, fun c2 => ?_⟩⟩⟩⟩⟩⟩⟩⟩⟩⟩⟩⟩
      · exact hP
      all_goals omega
    · intro r hr ih
      have tv := p5 r hr
      have hw := whF_lt (T := A 273) p0 (w := A 269 (2 * r)) p1
      refine w320_4 hp263 rfl  ⟨by (first | omega | assumption), ⟨by (first | omega | assumption), ⟨fun c1 => ?_, fun c1 => ⟨by (first | omega | assumption), ⟨by (first | omega | assumption), ⟨by (first | omega | assumption), ⟨by (first | omega | assumption), ⟨by (first | omega | assumption), ⟨by (first | omega | assumption), ⟨by (first | omega | assumption), ⟨by (first | omega | assumption), ⟨fun c2 => ?_, fun c2 => ?_⟩⟩⟩⟩⟩⟩⟩⟩⟩⟩⟩⟩
      · omega
      · rw [show cntN (fun r => !decide (whF (A 264) (A 273) p (A 269 (2 * r)) = A 269 (2 * r + 1))) (r + 1) = cntN (fun r => !decide (whF (A 264) (A 273) p (A 269 (2 * r)) = A 269 (2 * r + 1))) r + 1 by show _ + (!decide _).toNat = _; rw [decide_eq_false c2]; rfl] at ih
        exact ih
      · rw [show cntN (fun r => !decide (whF (A 264) (A 273) p (A 269 (2 * r)) = A 269 (2 * r + 1))) (r + 1) = cntN (fun r => !decide (whF (A 264) (A 273) p (A 269 (2 * r)) = A 269 (2 * r + 1))) r + 0 by show _ + (!decide _).toNat = _; rw [decide_eq_true c2]; rfl] at ih
        exact ih
  exact w320 hp263 rfl (L 0 (by omega))
theorem r_wrongRows {X : gv_X} {d : Nat} {G : gv_Sh} {A : Nat → Nat → Nat} {j : Nat → Nat → Int64} {cc : gv_Rs} {p : Nat} (hp263 : oX12 G 263) (p0 : okW (A 264)) (p1 : p < 8) (p2 : A 273 p < 16) (p3 : A 263 11 % 2 = 0) (p4 : A 263 11 ≤ 40) (p5 : ∀ r, r < A 263 11 / 2 → A 269 (2 * r) ≤ 6 ∧ A 269 (2 * r + 1) ≤ 10) : Ev X (d + 4) gvm_320 0 (gv_enter [.ref 263, .int (nI p)] 4) [] (G, (mI A, j), cc) (.inl (some (.int (nI (wrN (A 264) (A 273) (A 269) (A 263 11) p)))), (G, (mI A, j), cc)) := evp_det (r_wrongRows_p hp263 p0 p1 p2 p3 p4 p5 rfl)
theorem w321 {X : gv_X} {d : Nat} {G : gv_Sh} {A : Nat → Nat → Nat} {j : Nat → Nat → Int64} {cc : gv_Rs} {P : gv_O × gv_S → Prop} {k : Nat} {R : Nat → Nat} (hp263 : oX12 G 263) (hR : A 264 = R) (H : EvP X (d + 5) gvm_321 4 [some (.ref 263), some (.int (nI k)), some (.int (nI 0)), some (.int (nI 0))] [] (G, (mI A, j), cc) P) : EvP X (d + 5) gvm_321 0 (gv_enter [.ref 263, .int (nI k)] 4) [] (G, (mI A, j), cc) P :=
  by
  subst hR
  exact (pn_iconst rfl rfl   (pv_istore_n rfl rfl   (pn_iconst rfl rfl   (pv_istore_n rfl rfl   H))))
theorem w321_4 {X : gv_X} {d : Nat} {G : gv_Sh} {A : Nat → Nat → Nat} {j : Nat → Nat → Int64} {cc : gv_Rs} {P : gv_O × gv_S → Prop} {k : Nat} {R : Nat → Nat} {l2 : Nat} {l3 : Nat} (hp263 : oX12 G 263) (hR : A 264 = R) (H : (l3 < 2147483648) ∧ (((R 0) < 2147483648) ∧ ((((R 0) ≤ l3) → P (.inl (some (.int (nI l2))), (G, (mI A, j), cc))) ∧ ((l3 < (R 0)) → (okW R) ∧ ((l3 < 8) ∧ ((A 273 l3 < 16) ∧ ((A 263 11 % 2 = 0) ∧ ((A 263 11 ≤ 40) ∧ ((∀ r, r < A 263 11 / 2 → A 269 (2 * r) ≤ 6 ∧ A 269 (2 * r + 1) ≤ 10) ∧ (((wrN R (A 273) (A 269) (A 263 11) l3) < 2147483648) ∧ ((k < 2147483648) ∧ (((k < (wrN R (A 273) (A 269) (A 263 11) l3)) → EvP X (d + 5) gvm_321 4 [some (.ref 263), some (.int (nI k)), some (.int (nI (l2 ||| 0))), some (.int (nI (l3 + 1)))] [] (G, (mI A, j), cc) P) ∧ (((wrN R (A 273) (A 269) (A 263 11) l3) ≤ k) → (l3 < 32) ∧ (EvP X (d + 5) gvm_321 4 [some (.ref 263), some (.int (nI k)), some (.int (nI (l2 ||| (2 ^ l3)))), some (.int (nI (l3 + 1)))] [] (G, (mI A, j), cc) P)))))))))))))) : EvP X (d + 5) gvm_321 4 [some (.ref 263), some (.int (nI k)), some (.int (nI l2)), some (.int (nI l3))] [] (G, (mI A, j), cc) P :=
  by
  subst hR
  exact (pv_iload_n rfl rfl   (pv_aload_n rfl rfl   (pv_virt rfl rfl rfl rfl rfl (oX12_k hp263) rfl rfl rfl (r_ops (A := A) hp263 ) (pn_ic_ge rfl H.1 H.2.1 (fun c1 => (pv_iload_n rfl rfl   (pv_ireti rfl rfl (H.2.2.1 c1)))) (fun c1 => (pv_iload_n rfl rfl   (pv_aload_n rfl rfl   (pv_iload_n rfl rfl   (pv_virt rfl rfl rfl rfl rfl (oX12_k hp263) rfl rfl rfl (r_wrongRows (p := l3) (A := A) hp263 (H.2.2.2 c1).1 (H.2.2.2 c1).2.1 (H.2.2.2 c1).2.2.1 (H.2.2.2 c1).2.2.2.1 (H.2.2.2 c1).2.2.2.2.1 (H.2.2.2 c1).2.2.2.2.2.1 ) (pv_iload_n rfl rfl   (pn_ic_gt rfl (H.2.2.2 c1).2.2.2.2.2.2.1 (H.2.2.2 c1).2.2.2.2.2.2.2.1 (fun c2 => (pn_iconst rfl rfl   (pn_ior rfl   (pv_istore_n rfl rfl   (pn_iinc rfl rfl rfl rfl   (pv_goto rfl ((H.2.2.2 c1).2.2.2.2.2.2.2.2.1 c2))))))) (fun c2 => (pn_iconst rfl rfl   (pv_iload_n rfl rfl   (pn_ishl1 rfl ((H.2.2.2 c1).2.2.2.2.2.2.2.2.2 c2).1  (pv_goto rfl (pn_ior rfl   (pv_istore_n rfl rfl   (pn_iinc rfl rfl rfl rfl   (pv_goto rfl ((H.2.2.2 c1).2.2.2.2.2.2.2.2.2 c2).2))))))))))))))))))))
theorem r_thatFit_p {X : gv_X} {d : Nat} {G : gv_Sh} {A : Nat → Nat → Nat} {j : Nat → Nat → Int64} {cc : gv_Rs} {P : gv_O × gv_S → Prop} {k : Nat} (hp263 : oX12 G 263) (p0 : okW (A 264)) (p1 : k < 2147483648) (p2 : ∀ p, p < 8 → A 273 p < 16) (p3 : A 263 11 % 2 = 0) (p4 : A 263 11 ≤ 40) (p5 : ∀ r, r < A 263 11 / 2 → A 269 (2 * r) ≤ 6 ∧ A 269 (2 * r + 1) ≤ 10) (hP : P (.inl (some (.int (nI (fitN (A 264) (A 273) (A 269) (A 263 11) k)))), (G, (mI A, j), cc))) : EvP X (d + 5) gvm_321 0 (gv_enter [.ref 263, .int (nI k)] 4) [] (G, (mI A, j), cc) P := by
  have hn := okW_n p0
  have L : ∀ q, q ≤ A 264 0 → EvP X (d + 5) gvm_321 4 [some (.ref 263), some (.int (nI k)), some (.int (nI (bitN (fun p => decide (wrN (A 264) (A 273) (A 269) (A 263 11) p ≤ k)) q))), some (.int (nI q))] [] (G, (mI A, j), cc) P := by
    refine up_ind (A 264 0) ?_ ?_
    · refine w321_4 hp263 rfl  ⟨by (first | omega | assumption | exact p2 _ (by omega)), ⟨by (first | omega | assumption | exact p2 _ (by omega)), ⟨fun c1 => ?_, fun c1 => ⟨by (first | omega | assumption | exact p2 _ (by omega)), ⟨by (first | omega | assumption | exact p2 _ (by omega)), ⟨by (first | omega | assumption | exact p2 _ (by omega)), ⟨by (first | omega | assumption | exact p2 _ (by omega)), ⟨by (first | omega | assumption | exact p2 _ (by omega)), ⟨by (first | omega | assumption | exact p2 _ (by omega)), ⟨by (first | omega | assumption | exact p2 _ (by omega)), ⟨by (first | omega | assumption | exact p2 _ (by omega)), ⟨fun c2 => ?_, fun c2 => ⟨by (first | omega | assumption | exact p2 _ (by omega)), ?_⟩⟩⟩⟩⟩⟩⟩⟩⟩⟩⟩⟩⟩
      · exact hP
      all_goals omega
    · intro q hq ih
      have hw : wrN (A 264) (A 273) (A 269) (A 263 11) q ≤ A 263 11 / 2 := cntN_le _ _
      refine w321_4 hp263 rfl  ⟨by (first | omega | assumption | exact p2 _ (by omega)), ⟨by (first | omega | assumption | exact p2 _ (by omega)), ⟨fun c1 => ?_, fun c1 => ⟨by (first | omega | assumption | exact p2 _ (by omega)), ⟨by (first | omega | assumption | exact p2 _ (by omega)), ⟨by (first | omega | assumption | exact p2 _ (by omega)), ⟨by (first | omega | assumption | exact p2 _ (by omega)), ⟨by (first | omega | assumption | exact p2 _ (by omega)), ⟨by (first | omega | assumption | exact p2 _ (by omega)), ⟨by (first | omega | assumption | exact p2 _ (by omega)), ⟨by (first | omega | assumption | exact p2 _ (by omega)), ⟨fun c2 => ?_, fun c2 => ⟨by (first | omega | assumption | exact p2 _ (by omega)), ?_⟩⟩⟩⟩⟩⟩⟩⟩⟩⟩⟩⟩⟩
      · omega
      · rw [show bitN (fun p => decide (wrN (A 264) (A 273) (A 269) (A 263 11) p ≤ k)) (q + 1) = bitN (fun p => decide (wrN (A 264) (A 273) (A 269) (A 263 11) p ≤ k)) q ||| 0 by show _ ||| (if decide _ = true then _ else _) = _; rw [if_neg (by rw [decide_eq_false (by omega)]; decide)]] at ih
        exact ih
      · rw [show bitN (fun p => decide (wrN (A 264) (A 273) (A 269) (A 263 11) p ≤ k)) (q + 1) = bitN (fun p => decide (wrN (A 264) (A 273) (A 269) (A 263 11) p ≤ k)) q ||| 2 ^ q by show _ ||| (if decide _ = true then _ else _) = _; rw [if_pos (decide_eq_true (by omega))]] at ih
        exact ih
  exact w321 hp263 rfl (L 0 (by omega))
theorem r_thatFit {X : gv_X} {d : Nat} {G : gv_Sh} {A : Nat → Nat → Nat} {j : Nat → Nat → Int64} {cc : gv_Rs} {k : Nat} (hp263 : oX12 G 263) (p0 : okW (A 264)) (p1 : k < 2147483648) (p2 : ∀ p, p < 8 → A 273 p < 16) (p3 : A 263 11 % 2 = 0) (p4 : A 263 11 ≤ 40) (p5 : ∀ r, r < A 263 11 / 2 → A 269 (2 * r) ≤ 6 ∧ A 269 (2 * r + 1) ≤ 10) : Ev X (d + 5) gvm_321 0 (gv_enter [.ref 263, .int (nI k)] 4) [] (G, (mI A, j), cc) (.inl (some (.int (nI (fitN (A 264) (A 273) (A 269) (A 263 11) k)))), (G, (mI A, j), cc)) := evp_det (r_thatFit_p hp263 p0 p1 p2 p3 p4 p5 rfl)
