/-! the class: Log -/
def fmN (x y : Nat) : Nat := if x < 2147483648 then x else x + y - 4294967296
theorem fm_60 : ∀ a, a < 60 → (if nI (4294967236 + a) - nI (4294967236 + a) / nI 60 * nI 60 = 0 then nI (4294967236 + a) - nI (4294967236 + a) / nI 60 * nI 60 else nI (4294967236 + a) - nI (4294967236 + a) / nI 60 * nI 60 + nI 60) = nI a := by decide +kernel
theorem fm_12 : ∀ a, a < 12 → (if nI (4294967284 + a) - nI (4294967284 + a) / nI 12 * nI 12 = 0 then nI (4294967284 + a) - nI (4294967284 + a) / nI 12 * nI 12 else nI (4294967284 + a) - nI (4294967284 + a) / nI 12 * nI 12 + nI 12) = nI a := by decide +kernel
theorem fx_60 : ∀ a, a < 60 → 2147483648 ≤ (4294967236 + a) ^^^ 60 ∧ (4294967236 + a) ^^^ 60 < 4294967296 := by decide +kernel
theorem fx_12 : ∀ a, a < 12 → 2147483648 ≤ (4294967284 + a) ^^^ 12 ∧ (4294967284 + a) ^^^ 12 < 4294967296 := by decide +kernel
theorem fp_60 : ∀ a, a < 60 → a ^^^ 60 < 2147483648 := by decide +kernel
theorem fp_12 : ∀ a, a < 12 → a ^^^ 12 < 2147483648 := by decide +kernel
/-- the log as the class has it: a ring -/
def rL (A : Nat → Nat → Nat) (l : Nat) (R : Nat → Nat) : Prop := A l 0 = R 10 ∧ A l 1 < 60 ∧ ∀ i x, i < R 10 → x < 4 → A (l + 1) ((A l 1 + 59 - i) % 60 * 4 + x) = R (128 + 4 * i + x)
theorem rL_of {A B : Nat → Nat → Nat} {l : Nat} {R : Nat → Nat} (h : rL A l R) (e : B l = A l) (e2 : B (l + 1) = A (l + 1)) : rL B l R := by
  unfold rL; rw [e, e2]; exact h
theorem rL_R {A : Nat → Nat → Nat} {l : Nat} {R S : Nat → Nat} (h : rL A l R) (o : R 10 ≤ 60) (e : ∀ i, i = 10 ∨ (128 ≤ i ∧ i < 368) → S i = R i) : rL A l S := by
  refine ⟨by rw [e 10 (by omega)]; exact h.1, h.2.1, fun i x hi hx => ?_⟩
  rw [e 10 (by omega)] at hi
  rw [e _ (by omega)]; exact h.2.2 i x hi hx
def cpL2 (A B : Nat → Nat → Nat) (l m : Nat) : Prop := B l 0 = A m 0 ∧ B l 1 = A m 1 ∧ (∀ k, k < 240 → B (l + 1) k = A (m + 1) k) ∧ ∀ q, q ≠ l → q ≠ l + 1 → B q = A q
theorem w388 {X : gv_X} {d : Nat} {G : gv_Sh} {A : Nat → Nat → Nat} {j : Nat → Nat → Int64} {cc : gv_Rs} {P : gv_O × gv_S → Prop} {x : Nat} {y : Nat}  (H : (¬ nI y = 0) ∧ (((x ^^^ y) < 4294967296) ∧ ((((x ^^^ y) < 2147483648) → P (.inl (some (.int (nI x - nI x / nI y * nI y))), (G, (mI A, j), cc))) ∧ ((2147483648 ≤ (x ^^^ y)) → (((nI x - nI x / nI y * nI y) = 0) → P (.inl (some (.int (nI x - nI x / nI y * nI y))), (G, (mI A, j), cc))) ∧ ((¬ (nI x - nI x / nI y * nI y) = 0) → P (.inl (some (.int ((nI x - nI x / nI y * nI y) + (nI y)))), (G, (mI A, j), cc))))))) : EvP X (d + 0) gvm_388 0 (gv_enter [.int (nI x), .int (nI y)] 3) [] (G, (mI A, j), cc) P :=
  (pv_iload_n rfl rfl   (pv_iload_n rfl rfl   (pv_irem rfl H.1 (pv_istore_n rfl rfl   (pv_iload_n rfl rfl   (pv_iload_n rfl rfl   (pn_ixor rfl   (pn_if_ge rfl H.2.1 (fun c1 => (pv_iload_n rfl rfl   (pv_ireti rfl rfl (H.2.2.1 c1)))) (fun c1 => (pv_iload_n rfl rfl   (pv_if_eq rfl  (fun c2 => (pv_iload_n rfl rfl   (pv_ireti rfl rfl ((H.2.2.2 c1).1 c2)))) (fun c2 => (pv_iload_n rfl rfl   (pv_iload_n rfl rfl   (pv_iadd rfl   (pv_ireti rfl rfl ((H.2.2.2 c1).2 c2)))))))))))))))))
theorem k_floorMod_p {X : gv_X} {d : Nat} {G : gv_Sh} {A : Nat → Nat → Nat} {j : Nat → Nat → Int64} {cc : gv_Rs} {P : gv_O × gv_S → Prop} {x : Nat} {y : Nat}  (p0 : y = 60 ∨ y = 12) (p1 : x < y ∨ (4294967296 ≤ x + y ∧ x < 4294967296)) (hP : P (.inl (some (.int (nI (fmN x y)))), (G, (mI A, j), cc))) : EvP X (d + 0) gvm_388 0 (gv_enter [.int (nI x), .int (nI y)] 3) [] (G, (mI A, j), cc) P := by
  rcases p0 with rfl | rfl
  · refine w388 ⟨by decide, ?_⟩
    rcases p1 with h | ⟨h, h'⟩
    · have e : nI x - nI x / nI 60 * nI 60 = nI x := by rw [pk_rem (by omega) (by decide) (by decide), Nat.mod_eq_of_lt h]
      have f := fp_60 x h
      have z : fmN x 60 = x := if_pos (by omega)
      rw [z] at hP
      refine ⟨by omega, fun c1 => ?_, fun c1 => absurd c1 (by omega)⟩
      rw [e]; exact hP
    · obtain ⟨a, rfl⟩ : ∃ a, x = 4294967236 + a := ⟨x - 4294967236, by omega⟩
      have f := fx_60 a (by omega)
      have g := fm_60 a (by omega)
      have z : fmN (4294967236 + a) 60 = a := by unfold fmN; rw [if_neg (by omega)]; omega
      rw [z] at hP
      refine ⟨f.2, fun c1 => absurd c1 (by omega), fun c1 => ⟨fun c2 => ?_, fun c2 => ?_⟩⟩
      · rw [if_pos c2] at g; rw [g]; exact hP
      · rw [if_neg c2] at g; rw [g]; exact hP
  · refine w388 ⟨by decide, ?_⟩
    rcases p1 with h | ⟨h, h'⟩
    · have e : nI x - nI x / nI 12 * nI 12 = nI x := by rw [pk_rem (by omega) (by decide) (by decide), Nat.mod_eq_of_lt h]
      have f := fp_12 x h
      have z : fmN x 12 = x := if_pos (by omega)
      rw [z] at hP
      refine ⟨by omega, fun c1 => ?_, fun c1 => absurd c1 (by omega)⟩
      rw [e]; exact hP
    · obtain ⟨a, rfl⟩ : ∃ a, x = 4294967284 + a := ⟨x - 4294967284, by omega⟩
      have f := fx_12 a (by omega)
      have g := fm_12 a (by omega)
      have z : fmN (4294967284 + a) 12 = a := by unfold fmN; rw [if_neg (by omega)]; omega
      rw [z] at hP
      refine ⟨f.2, fun c1 => absurd c1 (by omega), fun c1 => ⟨fun c2 => ?_, fun c2 => ?_⟩⟩
      · rw [if_pos c2] at g; rw [g]; exact hP
      · rw [if_neg c2] at g; rw [g]; exact hP
theorem k_floorMod {X : gv_X} {d : Nat} {G : gv_Sh} {A : Nat → Nat → Nat} {j : Nat → Nat → Int64} {cc : gv_Rs} {x : Nat} {y : Nat}  (p0 : y = 60 ∨ y = 12) (p1 : x < y ∨ (4294967296 ≤ x + y ∧ x < 4294967296)) : Ev X (d + 0) gvm_388 0 (gv_enter [.int (nI x), .int (nI y)] 3) [] (G, (mI A, j), cc) (.inl (some (.int (nI (fmN x y)))), (G, (mI A, j), cc)) := evp_det (k_floorMod_p  p0 p1 rfl)
theorem w41 {X : gv_X} {d : Nat} {G : gv_Sh} {A : Nat → Nat → Nat} {j : Nat → Nat → Int64} {cc : gv_Rs} {P : gv_O × gv_S → Prop} {l : Nat} {a : Nat} {h : Nat} (hl : oX5 G l) (H : (a < 4294967296) ∧ (((2147483648 ≤ a) → P (.inl (some (.int (nI 4294967294))), (G, (mI A, j), cc))) ∧ ((a < 2147483648) → (a < 2147483648) ∧ (((A l 0) < 2147483648) ∧ ((((A l 0) ≤ a) → P (.inl (some (.int (nI 4294967294))), (G, (mI A, j), cc))) ∧ ((a < (A l 0)) → (a < 2147483648) ∧ (((60 ≤ a) → P (.inl (some (.int (nI 4294967294))), (G, (mI A, j), cc))) ∧ ((a < 60) → (h < 4294967296) ∧ (((2147483648 ≤ h) → P (.inl (some (.int (nI 4294967294))), (G, (mI A, j), cc))) ∧ ((h < 2147483648) → (h < 2147483648) ∧ (((h < 4) → EvP X (d + 1) gvm_41 30 [some (.ref l), some (.int (nI a)), some (.int (nI h))] [] (G, (mI A, j), cc) P) ∧ ((4 ≤ h) → P (.inl (some (.int (nI 4294967294))), (G, (mI A, j), cc)))))))))))))) : EvP X (d + 1) gvm_41 0 (gv_enter [.ref l, .int (nI a), .int (nI h)] 3) [] (G, (mI A, j), cc) P :=
  (pv_iload_n rfl rfl   (pn_if_lt rfl H.1 (fun c1 => (pn_bipush (u := 4294967294) rfl (by decide)   (pv_ireti rfl rfl (H.2.1 c1)))) (fun c1 => (pv_iload_n rfl rfl   (pv_aload_n rfl rfl   (pn_getI rfl rfl (oX5_k hl) rfl   (pn_ic_ge rfl (H.2.2 c1).1 (H.2.2 c1).2.1 (fun c2 => (pn_bipush (u := 4294967294) rfl (by decide)   (pv_ireti rfl rfl ((H.2.2 c1).2.2.1 c2)))) (fun c2 => (pv_iload_n rfl rfl   (pn_bipush rfl rfl   (pn_ic_ge rfl ((H.2.2 c1).2.2.2 c2).1 (by decide) (fun c3 => (pn_bipush (u := 4294967294) rfl (by decide)   (pv_ireti rfl rfl (((H.2.2 c1).2.2.2 c2).2.1 c3)))) (fun c3 => (pv_iload_n rfl rfl   (pn_if_lt rfl (((H.2.2 c1).2.2.2 c2).2.2 c3).1 (fun c4 => (pn_bipush (u := 4294967294) rfl (by decide)   (pv_ireti rfl rfl ((((H.2.2 c1).2.2.2 c2).2.2 c3).2.1 c4)))) (fun c4 => (pv_iload_n rfl rfl   (pn_iconst rfl rfl   (pn_ic_lt rfl ((((H.2.2 c1).2.2.2 c2).2.2 c3).2.2 c4).1 (by decide) (fun c5 => (((((H.2.2 c1).2.2.2 c2).2.2 c3).2.2 c4).2.1 c5)) (fun c5 => (pn_bipush (u := 4294967294) rfl (by decide)   (pv_ireti rfl rfl (((((H.2.2 c1).2.2.2 c2).2.2 c3).2.2 c4).2.2 c5))))))))))))))))))))))
theorem w41_30 {X : gv_X} {d : Nat} {G : gv_Sh} {A : Nat → Nat → Nat} {j : Nat → Nat → Int64} {cc : gv_Rs} {P : gv_O × gv_S → Prop} {l : Nat} {a : Nat} {h : Nat} (hl : oX5 G l) (H : (a ≤ 4294967296) ∧ ((60 = 60 ∨ 60 = 12) ∧ (((((((A l 1) + 4294967296 - 1) % 4294967296) + 4294967296 - a) % 4294967296) < 60 ∨ (4294967296 ≤ (((((A l 1) + 4294967296 - 1) % 4294967296) + 4294967296 - a) % 4294967296) + 60 ∧ (((((A l 1) + 4294967296 - 1) % 4294967296) + 4294967296 - a) % 4294967296) < 4294967296)) ∧ (((((fmN (((((A l 1) + 4294967296 - 1) % 4294967296) + 4294967296 - a) % 4294967296) 60) * 4) + h) < 240) ∧ (P (.inl (some (.int (nI (A (l + 1) (((fmN (((((A l 1) + 4294967296 - 1) % 4294967296) + 4294967296 - a) % 4294967296) 60) * 4) + h))))), (G, (mI A, j), cc))))))) : EvP X (d + 1) gvm_41 30 [some (.ref l), some (.int (nI a)), some (.int (nI h))] [] (G, (mI A, j), cc) P :=
  (pv_aload_n rfl rfl   (pv_getP rfl rfl (oX5_k hl) (oX5_2 hl)   (pv_aload_n rfl rfl   (pn_getI rfl rfl (oX5_k hl) rfl   (pn_iconst rfl rfl   (pn_isubw rfl (by decide)  (pv_iload_n rfl rfl   (pn_isubw rfl H.1  (pn_bipush rfl rfl   (pv_stat rfl rfl rfl rfl rfl rfl rfl rfl (k_floorMod (x := (((((A l 1) + 4294967296 - 1) % 4294967296) + 4294967296 - a) % 4294967296)) (y := 60) (A := A) H.2.1 H.2.2.1 ) (pn_iconst rfl rfl   (pn_imul rfl   (pv_iload_n rfl rfl   (pn_iadd rfl   (pn_iald rfl (oX5_2c hl) (by decide) H.2.2.2.1 rfl (pv_ireti rfl rfl H.2.2.2.2))))))))))))))))
theorem c_logGet_p {X : gv_X} {d : Nat} {G : gv_Sh} {A : Nat → Nat → Nat} {j : Nat → Nat → Int64} {cc : gv_Rs} {P : gv_O × gv_S → Prop} {l : Nat} {a : Nat} {h : Nat} {R : Nat → Nat} (hl : oX5 G l) (p0 : okW R) (p1 : rL A l R) (p2 : a < 4294967296) (p3 : h < 4294967296) (hP : P (.inl (some (.int (nI (if a < R 10 ∧ h < 4 then R (128 + 4 * a + h) else 4294967294)))), (G, (mI A, j), cc))) : EvP X (d + 1) gvm_41 0 (gv_enter [.ref l, .int (nI a), .int (nI h)] 3) [] (G, (mI A, j), cc) P := by
  have n60 : R 10 ≤ 60 := (okW_n p0).2.2.2.2.2.2.2.2.2.2.2.1
  have e0 := p1.1
  have e1 := p1.2.1
  refine w41 hl ⟨p2, fun c1 => qn hP (if_neg (by omega)), fun c1 => ⟨by omega, by omega, fun c2 => qn hP (if_neg (by omega)), fun c2 => ⟨by omega, fun c3 => qn hP (if_neg (by omega)), fun c3 => ⟨p3, fun c4 => qn hP (if_neg (by omega)), fun c4 => ⟨by omega, fun c5 => ?_, fun c5 => qn hP (if_neg (by omega))⟩⟩⟩⟩⟩
  obtain ⟨x, hx⟩ : ∃ x, x = ((A l 1 + 4294967296 - 1) % 4294967296 + 4294967296 - a) % 4294967296 := ⟨_, rfl⟩
  have hf : fmN x 60 = (A l 1 + 59 - a) % 60 := by
    unfold fmN
    by_cases z : x < 2147483648
    · rw [if_pos z]; omega
    · rw [if_neg z]; omega
  refine w41_30 hl ?_
  rw [← hx, hf, p1.2.2 a h (by omega) c5]
  rw [if_pos ⟨by omega, c5⟩] at hP
  exact ⟨by omega, by omega, by omega, by omega, hP⟩
theorem c_logGet {X : gv_X} {d : Nat} {G : gv_Sh} {A : Nat → Nat → Nat} {j : Nat → Nat → Int64} {cc : gv_Rs} {l : Nat} {a : Nat} {h : Nat} {R : Nat → Nat} (hl : oX5 G l) (p0 : okW R) (p1 : rL A l R) (p2 : a < 4294967296) (p3 : h < 4294967296) : Ev X (d + 1) gvm_41 0 (gv_enter [.ref l, .int (nI a), .int (nI h)] 3) [] (G, (mI A, j), cc) (.inl (some (.int (nI (if a < R 10 ∧ h < 4 then R (128 + 4 * a + h) else 4294967294)))), (G, (mI A, j), cc)) := evp_det (c_logGet_p hl p0 p1 p2 p3 rfl)
theorem w39 {X : gv_X} {d : Nat} {G : gv_Sh} {A : Nat → Nat → Nat} {j : Nat → Nat → Int64} {cc : gv_Rs} {P : gv_O × gv_S → Prop} {l : Nat} {m : Nat} (hl : oX5 G l) (hm : oX5 G m) (H : (0 + 240 ≤ 240) ∧ ((0 + 240 ≤ 240) ∧ (P (.inl none, (G, (mI (gw (gu (gu A l 0 (A m 0)) l 1 ((gu A l 0 (A m 0)) m 1)) (l + 1) (va_cpy ((gu (gu A l 0 (A m 0)) l 1 ((gu A l 0 (A m 0)) m 1)) (m + 1)) ((gu (gu A l 0 (A m 0)) l 1 ((gu A l 0 (A m 0)) m 1)) (l + 1)) 0 0 240)), j), cc))))) : EvP X (d + 0) gvm_39 0 (gv_enter [.ref l, .ref m] 2) [] (G, (mI A, j), cc) P :=
  (pv_aload_n rfl rfl   (pv_aload_n rfl rfl   (pn_getI rfl rfl (oX5_k hm) rfl   (pn_putI rfl rfl (oX5_k hl)   (pv_aload_n rfl rfl   (pv_aload_n rfl rfl   (pn_getI rfl rfl (oX5_k hm) rfl   (pn_putI rfl rfl (oX5_k hl)   (pv_aload_n rfl rfl   (pv_getP rfl rfl (oX5_k hm) (oX5_2 hm)   (pn_iconst rfl rfl   (pv_aload_n rfl rfl   (pv_getP rfl rfl (oX5_k hl) (oX5_2 hl)   (pn_iconst rfl rfl   (pn_sipush rfl rfl   (pn_copy rfl rfl (oX5_2c hm) (oX5_2c hl) (by decide) (by decide) H.1 H.2.1 rfl (pv_vret rfl H.2.2)))))))))))))))))
theorem c_copyLog_p {X : gv_X} {d : Nat} {G : gv_Sh} {A : Nat → Nat → Nat} {j : Nat → Nat → Int64} {cc : gv_Rs} {P : gv_O × gv_S → Prop} {l : Nat} {m : Nat} (hl : oX5 G l) (hm : oX5 G m) (p0 : l + 2 ≤ m ∨ m + 2 ≤ l) (hP : ∀ A1 : Nat → Nat → Nat, (cpL2 A A1 l m) → P (.inl none, (G, (mI A1, j), cc))) : EvP X (d + 0) gvm_39 0 (gv_enter [.ref l, .ref m] 2) [] (G, (mI A, j), cc) P := by
  have n1 : m ≠ l := by omega
  have n2 : m + 1 ≠ l := by omega
  have n3 : l ≠ l + 1 := by omega
  refine w39 hl hm  ⟨by (first | decide | omega), ⟨by (first | decide | omega), ?_⟩⟩
  refine hP _ ⟨?_, ?_, fun k hk => ?_, fun q h1 h2 => ?_⟩
  · rw [gw_row n3]; simp [gu]
  · rw [gw_row n3]; simp [gu, n1]
  · rw [gw_at, cpy_lt hk]; simp only [gu_row n2]
  · rw [gw_row h2]; simp only [gu_row h1]
theorem c_copyLog {X : gv_X} {d : Nat} {G : gv_Sh} {A : Nat → Nat → Nat} {j : Nat → Nat → Int64} {cc : gv_Rs} {l : Nat} {m : Nat} (hl : oX5 G l) (hm : oX5 G m) (p0 : l + 2 ≤ m ∨ m + 2 ≤ l) : ∃ A1 : Nat → Nat → Nat, Ev X (d + 0) gvm_39 0 (gv_enter [.ref l, .ref m] 2) [] (G, (mI A, j), cc) (.inl none, (G, (mI A1, j), cc)) ∧ (cpL2 A A1 l m) := by
  obtain ⟨_, h, A1, rfl, hp⟩ := c_copyLog_p (X := X) (d := d) (G := G) (A := A) (j := j) (cc := cc) (l := l) (m := m) (P := fun r => ∃ A1 : Nat → Nat → Nat, r = (.inl none, (G, (mI A1, j), cc)) ∧ (cpL2 A A1 l m)) hl hm p0 (fun A1 h => ⟨A1, rfl, h⟩)
  exact ⟨A1, h, hp⟩
theorem w40 {X : gv_X} {d : Nat} {G : gv_Sh} {A : Nat → Nat → Nat} {j : Nat → Nat → Int64} {cc : gv_Rs} {P : gv_O × gv_S → Prop} {l : Nat} {tk : Nat} {p : Nat} {kd : Nat} {pc : Nat} (hl : oX5 G l) (H : ((A l 1) < 4294967296) ∧ (((2147483648 ≤ (A l 1)) → EvP X (d + 1) gvm_40 16 [some (.ref l), some (.int (nI tk)), some (.int (nI p)), some (.int (nI kd)), some (.int (nI pc)), none] [] (G, (mI A, j), cc) P) ∧ (((A l 1) < 2147483648) → ((A l 1) < 2147483648) ∧ ((((A l 1) < 60) → (((A l 1) * 4) < 240) ∧ (((((A l 1) * 4) + 1) < 240) ∧ (((((A l 1) * 4) + 2) < 240) ∧ (((((A l 1) * 4) + 3) < 240) ∧ ((((A l 1) + 1) < 2147483648) ∧ ((((A l 0) + 1) < 2147483648) ∧ (P (.inl none, (G, (mI (gu (gu (gu (gu (gu (gu A (l + 1) ((A l 1) * 4) tk) (l + 1) (((A l 1) * 4) + 1) p) (l + 1) (((A l 1) * 4) + 2) kd) (l + 1) (((A l 1) * 4) + 3) pc) l 1 (((A l 1) + 1) % 60)) l 0 (min 60 ((A l 0) + 1))), j), cc))))))))) ∧ ((60 ≤ (A l 1)) → EvP X (d + 1) gvm_40 16 [some (.ref l), some (.int (nI tk)), some (.int (nI p)), some (.int (nI kd)), some (.int (nI pc)), none] [] (G, (mI A, j), cc) P))))) : EvP X (d + 1) gvm_40 0 (gv_enter [.ref l, .int (nI tk), .int (nI p), .int (nI kd), .int (nI pc)] 6) [] (G, (mI A, j), cc) P :=
  (pv_aload_n rfl rfl   (pn_getI rfl rfl (oX5_k hl) rfl   (pn_if_lt rfl H.1 (fun c1 => (H.2.1 c1)) (fun c1 => (pv_aload_n rfl rfl   (pn_getI rfl rfl (oX5_k hl) rfl   (pn_bipush rfl rfl   (pn_ic_lt rfl (H.2.2 c1).1 (by decide) (fun c2 => (pv_aload_n rfl rfl   (pn_getI rfl rfl (oX5_k hl) rfl   (pn_iconst rfl rfl   (pn_imul rfl   (pv_istore rfl rfl   (pv_aload_n rfl rfl   (pv_getP rfl rfl (oX5_k hl) (oX5_2 hl)   (pv_iload rfl rfl   (pv_iload_n rfl rfl   (pn_iast rfl (oX5_2c hl) (by decide) ((H.2.2 c1).2.1 c2).1  (pv_aload_n rfl rfl   (pv_getP rfl rfl (oX5_k hl) (oX5_2 hl)   (pv_iload rfl rfl   (pn_iconst rfl rfl   (pn_iadd rfl   (pv_iload_n rfl rfl   (pn_iast rfl (oX5_2c hl) (by decide) ((H.2.2 c1).2.1 c2).2.1  (pv_aload_n rfl rfl   (pv_getP rfl rfl (oX5_k hl) (oX5_2 hl)   (pv_iload rfl rfl   (pn_iconst rfl rfl   (pn_iadd rfl   (pv_iload_n rfl rfl   (pn_iast rfl (oX5_2c hl) (by decide) ((H.2.2 c1).2.1 c2).2.2.1  (pv_aload_n rfl rfl   (pv_getP rfl rfl (oX5_k hl) (oX5_2 hl)   (pv_iload rfl rfl   (pn_iconst rfl rfl   (pn_iadd rfl   (pv_iload rfl rfl   (pn_iast rfl (oX5_2c hl) (by decide) ((H.2.2 c1).2.1 c2).2.2.2.1  (pv_aload_n rfl rfl   (pv_aload_n rfl rfl   (pn_getI rfl rfl (oX5_k hl) (gu_q (by omega) (gu_q (by omega) (gu_q (by omega) (gu_q (by omega) rfl))))   (pn_iconst rfl rfl   (pn_iadd rfl   (pn_bipush rfl rfl   (pn_irem rfl ((H.2.2 c1).2.1 c2).2.2.2.2.1 (by decide) (by decide)  (pn_putI rfl rfl (oX5_k hl)   (pv_aload_n rfl rfl   (pn_bipush rfl rfl   (pv_aload_n rfl rfl   (pn_getI rfl rfl (oX5_k hl) (gu_k (by decide) (gu_q (by omega) (gu_q (by omega) (gu_q (by omega) (gu_q (by omega) rfl)))))   (pn_iconst rfl rfl   (pn_iadd rfl   (pv_stat rfl rfl rfl rfl rfl rfl rfl rfl (k_min (a := 60) (b := ((A l 0) + 1)) (A := (gu (gu (gu (gu (gu A (l + 1) ((A l 1) * 4) tk) (l + 1) (((A l 1) * 4) + 1) p) (l + 1) (((A l 1) * 4) + 2) kd) (l + 1) (((A l 1) * 4) + 3) pc) l 1 (((A l 1) + 1) % 60))) (by decide) ((H.2.2 c1).2.1 c2).2.2.2.2.2.1 ) (pn_putI rfl rfl (oX5_k hl)   (pv_vret rfl ((H.2.2 c1).2.1 c2).2.2.2.2.2.2))))))))))))))))))))))))))))))))))))))))))))))))) (fun c2 => ((H.2.2 c1).2.2 c2))))))))))
theorem w40_16 {X : gv_X} {d : Nat} {G : gv_Sh} {A : Nat → Nat → Nat} {j : Nat → Nat → Int64} {cc : gv_Rs} {P : gv_O × gv_S → Prop} {l : Nat} {tk : Nat} {p : Nat} {kd : Nat} {pc : Nat} (hl : oX5 G l) (H : P (.inl none, (G, (mI A, j), cc))) : EvP X (d + 1) gvm_40 16 [some (.ref l), some (.int (nI tk)), some (.int (nI p)), some (.int (nI kd)), some (.int (nI pc)), none] [] (G, (mI A, j), cc) P :=
  (pv_vret rfl H)
theorem c_logAdd_p {X : gv_X} {d : Nat} {G : gv_Sh} {A : Nat → Nat → Nat} {j : Nat → Nat → Int64} {cc : gv_Rs} {P : gv_O × gv_S → Prop} {l : Nat} {tk : Nat} {p : Nat} {kd : Nat} {pc : Nat} {R : Nat → Nat} (hl : oX5 G l) (p0 : okW R) (p1 : rL A l R) (p2 : tk = R 8) (hP : ∀ A1 : Nat → Nat → Nat, (rL A1 l (toR R p kd pc)) ∧ (∀ q, q ≠ l → q ≠ l + 1 → A1 q = A q) → P (.inl none, (G, (mI A1, j), cc))) : EvP X (d + 1) gvm_40 0 (gv_enter [.ref l, .int (nI tk), .int (nI p), .int (nI kd), .int (nI pc)] 6) [] (G, (mI A, j), cc) P := by
  have n60 : R 10 ≤ 60 := (okW_n p0).2.2.2.2.2.2.2.2.2.2.2.1
  obtain ⟨e0, e1, e2⟩ := p1
  refine w40 hl ⟨by omega, fun c1 => absurd c1 (by omega), fun c1 => ⟨by omega, fun c2 => ⟨by omega, by omega, by omega, by omega, by omega, by omega, hP _ ⟨?_, fun q h1 h2 => ?_⟩⟩, fun c2 => absurd c2 (by omega)⟩⟩
  · obtain ⟨n, hn⟩ : ∃ n, n = A l 1 := ⟨_, rfl⟩
    rw [← hn] at e1 e2 ⊢
    have t10 : toR R p kd pc 10 = min 60 (R 10 + 1) := by unfold toR; rw [if_pos rfl]
    refine ⟨?_, ?_, fun i x hi hx => ?_⟩
    · rw [gu_hit, e0, t10]
    · rw [gu_k (by decide) (gu_hit _ _ _ _)]; omega
    · rw [t10] at hi
      rw [gu_k (show (1 : Nat) ≠ 0 by decide) (gu_hit _ _ _ _), gu_row (show l + 1 ≠ l by omega), gu_row (show l + 1 ≠ l by omega)]
      by_cases z : i = 0
      · have ei : ((n + 1) % 60 + 59 - i) % 60 = n := by omega
        rw [ei, z]
        rcases (by omega : x = 0 ∨ x = 1 ∨ x = 2 ∨ x = 3) with rfl | rfl | rfl | rfl
        · rw [gu_k (by omega) rfl, gu_k (by omega) rfl, gu_k (by omega) rfl]
          show gu A (l + 1) (n * 4) tk (l + 1) (n * 4) = R 8
          rw [gu_hit]; exact p2
        · rw [gu_k (by omega) rfl, gu_k (by omega) rfl, gu_hit]; rfl
        · rw [gu_k (by omega) rfl, gu_hit]; rfl
        · rw [gu_hit]; rfl
      · have ei : ((n + 1) % 60 + 59 - i) % 60 = (n + 59 - (i - 1)) % 60 := by omega
        have ej : (n + 59 - (i - 1)) % 60 ≠ n := by omega
        rw [ei, gu_k (by omega) rfl, gu_k (by omega) rfl, gu_k (by omega) rfl, gu_k (by omega) rfl, e2 (i - 1) x (by omega) hx]
        unfold toR
        rw [if_neg (by omega), if_neg (by omega), if_neg (by omega), if_neg (by omega), if_neg (by omega), if_pos (by omega)]
        congr 1
        omega
  · rw [gu_row h1, gu_row h1, gu_row h2, gu_row h2, gu_row h2, gu_row h2]
theorem c_logAdd {X : gv_X} {d : Nat} {G : gv_Sh} {A : Nat → Nat → Nat} {j : Nat → Nat → Int64} {cc : gv_Rs} {l : Nat} {tk : Nat} {p : Nat} {kd : Nat} {pc : Nat} {R : Nat → Nat} (hl : oX5 G l) (p0 : okW R) (p1 : rL A l R) (p2 : tk = R 8) : ∃ A1 : Nat → Nat → Nat, Ev X (d + 1) gvm_40 0 (gv_enter [.ref l, .int (nI tk), .int (nI p), .int (nI kd), .int (nI pc)] 6) [] (G, (mI A, j), cc) (.inl none, (G, (mI A1, j), cc)) ∧ (rL A1 l (toR R p kd pc)) ∧ (∀ q, q ≠ l → q ≠ l + 1 → A1 q = A q) := by
  obtain ⟨_, h, A1, rfl, hp⟩ := c_logAdd_p (X := X) (d := d) (G := G) (A := A) (j := j) (cc := cc) (l := l) (tk := tk) (p := p) (kd := kd) (pc := pc) (R := R) (P := fun r => ∃ A1 : Nat → Nat → Nat, r = (.inl none, (G, (mI A1, j), cc)) ∧ (rL A1 l (toR R p kd pc)) ∧ (∀ q, q ≠ l → q ≠ l + 1 → A1 q = A q)) hl p0 p1 p2 (fun A1 h => ⟨A1, rfl, h⟩)
  exact ⟨A1, h, hp⟩
