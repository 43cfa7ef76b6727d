/-! a line of the bench; parts of the law -/
def blS (t : Nat → Nat) (E : Nat) (R : Nat → Nat) (i b : Nat) : PR := if mt t b i 22 = true then opS t E R i b else if mt t b i 23 = true then pgS t E 12 R 0 i else if mt t b i 24 = true then ceS t E 9 R 0 i else if mt t b i 25 = true then rnS t E R i 4 9 else if mt t b i 26 = true then shS t E R i else if mt t b i 27 = true then rnS t E R i 6 7 else if mt t b i 28 = true then rnS t E R i 7 100 else if mt t b i 29 = true then rnS t E R i 9 999 else (false, R, i, b)
/-- point, begin, codes, deep -/
def lz (A : Nat → Nat → Nat) (p b n d : Nat) : Nat → Nat → Nat := gw A 263 (fun k => if k = 10 then p else if k = 12 then b else if k = 16 then n else if k = 13 then d else A 263 k)
def ry (A : Nat → Nat → Nat) (R : Nat → Nat) (p b n d : Nat) : Nat → Nat → Nat := gw (lz A p b n d) 264 R
theorem ry_4 (A : Nat → Nat → Nat) (R : Nat → Nat) (p b n d : Nat) : ry A R p b n d 264 = R := gw_at _ _ _
theorem ry_f (A : Nat → Nat → Nat) (R : Nat → Nat) (p b n d k : Nat) : ry A R p b n d 263 k = if k = 10 then p else if k = 12 then b else if k = 16 then n else if k = 13 then d else A 263 k := by unfold ry lz; rw [gw_row (by decide), gw_at]
theorem ry_p (A : Nat → Nat → Nat) (R : Nat → Nat) (p b n d : Nat) : ry A R p b n d 263 10 = p := by rw [ry_f]; rfl
theorem ry_b (A : Nat → Nat → Nat) (R : Nat → Nat) (p b n d : Nat) : ry A R p b n d 263 12 = b := by rw [ry_f]; rfl
theorem ry_n (A : Nat → Nat → Nat) (R : Nat → Nat) (p b n d : Nat) : ry A R p b n d 263 16 = n := by rw [ry_f]; rfl
theorem ry_d (A : Nat → Nat → Nat) (R : Nat → Nat) (p b n d : Nat) : ry A R p b n d 263 13 = d := by rw [ry_f]; rfl
theorem ry_11 (A : Nat → Nat → Nat) (R : Nat → Nat) (p b n d : Nat) : ry A R p b n d 263 11 = A 263 11 := by rw [ry_f]; rfl
theorem ry_q {A : Nat → Nat → Nat} {R : Nat → Nat} {p b n d q : Nat} (h : q ≠ 263) (h2 : q ≠ 264) : ry A R p b n d q = A q := by unfold ry lz; rw [gw_row h2, gw_row h]
theorem ry_9 (A : Nat → Nat → Nat) (R : Nat → Nat) (p b n d : Nat) : ry A R p b n d 269 = A 269 := ry_q (by decide) (by decide)
theorem ry_gu (A : Nat → Nat → Nat) (R : Nat → Nat) (p b n d k v : Nat) : gu (ry A R p b n d) 264 k v = ry A (seR R k v) p b n d := by
  unfold ry
  rw [gu_gwr]
  rfl
theorem ry_set {A : Nat → Nat → Nat} {R : Nat → Nat} {f : Nat → Nat} : gw (gw (gw A 263 f) 264 R) 263 = fun g => gw (gw A 263 g) 264 R := by
  funext g
  rw [gw_sw, gw_gw]
theorem ry_263 (A : Nat → Nat → Nat) (R : Nat → Nat) (p b n d k v : Nat) : gu (ry A R p b n d) 263 k v = gw (gw A 263 (fun x => if x = k then v else if x = 10 then p else if x = 12 then b else if x = 16 then n else if x = 13 then d else A 263 x)) 264 R := by
  rw [gu_gw]
  unfold ry lz
  rw [ry_set]
  congr 2
theorem ry_10 (A : Nat → Nat → Nat) (R : Nat → Nat) (p b n d v : Nat) : gu (ry A R p b n d) 263 10 v = ry A R v b n d := by
  rw [ry_263]
  unfold ry lz
  congr 2
  funext x
  by_cases h : x = 10
  · rw [if_pos h, if_pos h]
  · rw [if_neg h, if_neg h, if_neg h]
theorem ry_12 (A : Nat → Nat → Nat) (R : Nat → Nat) (p b n d v : Nat) : gu (ry A R p b n d) 263 12 v = ry A R p v n d := by
  rw [ry_263]
  unfold ry lz
  congr 2
  funext x
  by_cases h : x = 12
  · subst h; rfl
  · rw [if_neg h, if_neg h, if_neg h]
theorem ry_16 (A : Nat → Nat → Nat) (R : Nat → Nat) (p b n d v : Nat) : gu (ry A R p b n d) 263 16 v = ry A R p b v d := by
  rw [ry_263]
  unfold ry lz
  congr 2
  funext x
  by_cases h : x = 16
  · subst h; rfl
  · rw [if_neg h, if_neg h, if_neg h]
theorem ry_13 (A : Nat → Nat → Nat) (R : Nat → Nat) (p b n d v : Nat) : gu (ry A R p b n d) 263 13 v = ry A R p b n v := by
  rw [ry_263]
  unfold ry lz
  congr 2
  funext x
  by_cases h : x = 13
  · subst h; rfl
  · rw [if_neg h, if_neg h, if_neg h]
theorem ry_lx (A : Nat → Nat → Nat) (R : Nat → Nat) (p b n d p' b' : Nat) : lx (ry A R p b n d) p' b' = ry A R p' b' n d := by
  have h1 := lx_10 (ry A R p b n d) (ry A R p b n d 263 10) (ry A R p b n d 263 12) p'
  rw [lx_id, ry_10] at h1
  have h2 := lx_12 (ry A R p b n d) p' (ry A R p b n d 263 12) b'
  rw [← h1, ry_12] at h2
  exact h2.symm
theorem ry_id (A : Nat → Nat → Nat) : ry A (A 264) (A 263 10) (A 263 12) (A 263 16) (A 263 13) = A := by
  unfold ry lz
  rw [show (fun k => if k = 10 then A 263 10 else if k = 12 then A 263 12 else if k = 16 then A 263 16 else if k = 13 then A 263 13 else A 263 k) = A 263 from funext (fun k => by
    by_cases h1 : k = 10
    · rw [if_pos h1, h1]
    · rw [if_neg h1]
      by_cases h2 : k = 12
      · rw [if_pos h2, h2]
      · rw [if_neg h2]
        by_cases h3 : k = 16
        · rw [if_pos h3, h3]
        · rw [if_neg h3]
          by_cases h4 : k = 13
          · rw [if_pos h4, h4]
          · rw [if_neg h4]), gw_self, gw_self]
/-- codes laid into the row -/
def emC (R : Nat → Nat) (n c v : Nat) : Nat → Nat := seR (seR R (1266 + 2 * n) c) (1266 + 2 * n + 1) v
def emL : (Nat → Nat) → Nat → List (Nat × Nat) → (Nat → Nat)
  | R, _, [] => R
  | R, n, (c, v) :: l => emL (emC R n c v) (n + 1) l
theorem emL_app : ∀ (l m : List (Nat × Nat)) (R : Nat → Nat) (n : Nat), emL R n (l ++ m) = emL (emL R n l) (n + l.length) m
  | [], m, R, n => rfl
  | (c, v) :: l, m, R, n => by
    show emL (emC R n c v) (n + 1) (l ++ m) = _
    rw [emL_app l m]
    show _ = emL (emL (emC R n c v) (n + 1) l) (n + (l.length + 1)) m
    rw [show n + 1 + l.length = n + (l.length + 1) by omega]
theorem emL_o : ∀ (l : List (Nat × Nat)) (R : Nat → Nat) (n i : Nat), i < 1266 → emL R n l i = R i
  | [], _, _, _, _ => rfl
  | (c, v) :: l, R, n, i, h => by
    show emL (emC R n c v) (n + 1) l i = _
    rw [emL_o l _ _ i h]
    unfold emC
    rw [seR_ne (by omega), seR_ne (by omega)]
def wpR (t : Nat → Nat) (b e : Nat) : Nat := if mt t b e 22 = true then 0 else if mt t b e 30 = true then 1 else if mt t b e 31 = true then 2 else if mt t b e 32 = true then 3 else if mt t b e 33 = true then 4 else if mt t b e 34 = true then 5 else if mt t b e 35 = true then 6 else 4294967295
theorem wpR_le (t : Nat → Nat) (b e : Nat) : wpR t b e = 4294967295 ∨ wpR t b e ≤ 6 := by
  unfold wpR
  (repeat' split) <;> omega
theorem r_readBenchLine_p {X : gv_X} {d : Nat} {G : gv_Sh} {A : Nat → Nat → Nat} {j : Nat → Nat → Int64} {cc : gv_Rs} {P : gv_O × gv_S → Prop}  (hp263 : oX12 G 263) (p0 : A 263 11 ≤ 400) (p1 : A 263 10 ≤ A 263 11) (p2 : ∀ i, i < 400 → A 269 i < 4294967296) (p3 : A 264 0 ≤ 8) (p4 : A 263 12 ≤ A 263 10) (hP : P (.inl (some (.int (zo (blS (A 269) (A 263 11) (A 264) (A 263 10) (A 263 12)).1))), (G, (mI (rm A (blS (A 269) (A 263 11) (A 264) (A 263 10) (A 263 12)).2.1 (blS (A 269) (A 263 11) (A 264) (A 263 10) (A 263 12)).2.2.1 (blS (A 269) (A 263 11) (A 264) (A 263 10) (A 263 12)).2.2.2), j), cc))) : EvP X (d + 5) gvm_232 0 (gv_enter [.ref 263] 1) [] (G, (mI A, j), cc) P := by
  refine w232 hp263  ⟨by (first | omega | assumption), ⟨by (first | omega | assumption), ⟨by (first | omega | assumption), ⟨fun c1 => ⟨by (first | omega | assumption), ⟨by (first | omega | assumption), ⟨by (first | omega | assumption), ⟨fun c2 => ⟨by (first | omega | assumption), ⟨by (first | omega | assumption), ⟨by (first | omega | assumption), ⟨fun c3 => ⟨by (first | omega | assumption), ⟨by (first | omega | assumption), ⟨by (first | omega | assumption), ⟨fun c4 => ⟨by (first | omega | assumption), ⟨by (first | omega | assumption), ⟨by (first | omega | assumption), ⟨fun c5 => ⟨by (first | omega | assumption), ⟨by (first | omega | assumption), ⟨by (first | omega | assumption), ⟨fun c6 => ⟨by (first | omega | assumption), ⟨by (first | omega | assumption), ⟨by (first | omega | assumption), ⟨fun c7 => ⟨by (first | omega | assumption), ⟨by (first | omega | assumption), ⟨by (first | omega | assumption), ⟨fun c8 => ?_, fun c8 => ⟨by (first | omega | assumption), ⟨by (first | omega | assumption), ⟨by (first | omega | assumption), (fun A9 q9 => ⟨fun c10 => ?_, fun c10 => ?_⟩)⟩⟩⟩⟩⟩⟩⟩, fun c7 => ⟨by (first | omega | assumption), ⟨by (first | omega | assumption), ⟨by (first | omega | assumption), (fun A11 q11 => ?_)⟩⟩⟩⟩⟩⟩⟩, fun c6 => ⟨by (first | omega | assumption), ⟨by (first | omega | assumption), ⟨by (first | omega | assumption), (fun A12 q12 => ?_)⟩⟩⟩⟩⟩⟩⟩, fun c5 => ⟨by (first | omega | assumption), ⟨by (first | omega | assumption), ⟨by (first | omega | assumption), (fun A13 q13 => ?_)⟩⟩⟩⟩⟩⟩⟩, fun c4 => ⟨by (first | omega | assumption), ⟨by (first | omega | assumption), ⟨by (first | omega | assumption), (fun A14 q14 => ?_)⟩⟩⟩⟩⟩⟩⟩, fun c3 => ⟨by (first | omega | assumption), ⟨by (first | omega | assumption), ⟨by (first | omega | assumption), (fun A15 q15 => ?_)⟩⟩⟩⟩⟩⟩⟩, fun c2 => ⟨by (first | omega | assumption), ⟨by (first | omega | assumption), ⟨by (first | omega | assumption), ⟨by (first | omega | assumption), (fun A16 q16 => ?_)⟩⟩⟩⟩⟩⟩⟩⟩, fun c1 => ⟨by (first | omega | assumption), ⟨by (first | omega | assumption), ⟨by (first | omega | assumption), ⟨by (first | omega | assumption), (fun A17 q17 => ?_)⟩⟩⟩⟩⟩⟩⟩⟩
  · have e : (blS (A 269) (A 263 11) (A 264) (A 263 10) (A 263 12)) = (false, A 264, A 263 10, A 263 12) := (by unfold blS; simp only [*, Bool.false_eq_true, if_true, if_false])
    rw [e] at hP
    exact qz0 (qm hP (rm_id A)) rfl
  · have c10x := c10
    clear c10
    have e : (blS (A 269) (A 263 11) (A 264) (A 263 10) (A 263 12)) = rnS (A 269) (A 263 11) (A 264) (A 263 10) 9 999 := (by unfold blS; simp only [*, Bool.false_eq_true, if_true, if_false])
    rw [e, ← q9] at hP
    exact qz0 hP c10x
  · have c10x := c10
    clear c10
    have e : (blS (A 269) (A 263 11) (A 264) (A 263 10) (A 263 12)) = rnS (A 269) (A 263 11) (A 264) (A 263 10) 9 999 := (by unfold blS; simp only [*, Bool.false_eq_true, if_true, if_false])
    rw [e, ← q9] at hP
    exact qz1 hP c10x
  · have e : (blS (A 269) (A 263 11) (A 264) (A 263 10) (A 263 12)) = rnS (A 269) (A 263 11) (A 264) (A 263 10) 7 100 := (by unfold blS; simp only [*, Bool.false_eq_true, if_true, if_false])
    rw [e, ← q11] at hP
    exact hP
  · have e : (blS (A 269) (A 263 11) (A 264) (A 263 10) (A 263 12)) = rnS (A 269) (A 263 11) (A 264) (A 263 10) 6 7 := (by unfold blS; simp only [*, Bool.false_eq_true, if_true, if_false])
    rw [e, ← q12] at hP
    exact hP
  · have e : (blS (A 269) (A 263 11) (A 264) (A 263 10) (A 263 12)) = shS (A 269) (A 263 11) (A 264) (A 263 10) := (by unfold blS; simp only [*, Bool.false_eq_true, if_true, if_false])
    rw [e, ← q13] at hP
    exact hP
  · have e : (blS (A 269) (A 263 11) (A 264) (A 263 10) (A 263 12)) = rnS (A 269) (A 263 11) (A 264) (A 263 10) 4 9 := (by unfold blS; simp only [*, Bool.false_eq_true, if_true, if_false])
    rw [e, ← q14] at hP
    exact hP
  · have e : (blS (A 269) (A 263 11) (A 264) (A 263 10) (A 263 12)) = ceS (A 269) (A 263 11) 9 (A 264) 0 (A 263 10) := (by unfold blS; simp only [*, Bool.false_eq_true, if_true, if_false])
    rw [e, ← q15] at hP
    exact hP
  · have e : (blS (A 269) (A 263 11) (A 264) (A 263 10) (A 263 12)) = pgS (A 269) (A 263 11) 12 (A 264) 0 (A 263 10) := (by unfold blS; simp only [*, Bool.false_eq_true, if_true, if_false])
    rw [e, ← q16] at hP
    exact hP
  · have e : (blS (A 269) (A 263 11) (A 264) (A 263 10) (A 263 12)) = opS (A 269) (A 263 11) (A 264) (A 263 10) (A 263 12) := (by unfold blS; simp only [*, Bool.false_eq_true, if_true, if_false])
    rw [e, ← q17] at hP
    exact hP
theorem r_readBenchLine {X : gv_X} {d : Nat} {G : gv_Sh} {A : Nat → Nat → Nat} {j : Nat → Nat → Int64} {cc : gv_Rs}  (hp263 : oX12 G 263) (p0 : A 263 11 ≤ 400) (p1 : A 263 10 ≤ A 263 11) (p2 : ∀ i, i < 400 → A 269 i < 4294967296) (p3 : A 264 0 ≤ 8) (p4 : A 263 12 ≤ A 263 10) : Ev X (d + 5) gvm_232 0 (gv_enter [.ref 263] 1) [] (G, (mI A, j), cc) (.inl (some (.int (zo (blS (A 269) (A 263 11) (A 264) (A 263 10) (A 263 12)).1))), (G, (mI (rm A (blS (A 269) (A 263 11) (A 264) (A 263 10) (A 263 12)).2.1 (blS (A 269) (A 263 11) (A 264) (A 263 10) (A 263 12)).2.2.1 (blS (A 269) (A 263 11) (A 264) (A 263 10) (A 263 12)).2.2.2), j), cc)) := evp_det (r_readBenchLine_p hp263 p0 p1 p2 p3 p4 rfl)
theorem w234 {X : gv_X} {d : Nat} {G : gv_Sh} {A : Nat → Nat → Nat} {j : Nat → Nat → Int64} {cc : gv_Rs} {P : gv_O × gv_S → Prop}  (hp263 : oX12 G 263) (H : (A 263 12 ≤ A 263 10 ∧ A 263 10 ≤ 400) ∧ ((∀ i, i < 400 → A 269 i < 4294967296) ∧ ((1 ≤ 22 ∧ 22 < 40) ∧ ((((mt (A 269) (A 263 12) (A 263 10) 22) = false) → (A 263 12 ≤ A 263 10 ∧ A 263 10 ≤ 400) ∧ ((∀ i, i < 400 → A 269 i < 4294967296) ∧ ((1 ≤ 30 ∧ 30 < 40) ∧ ((((mt (A 269) (A 263 12) (A 263 10) 30) = false) → (A 263 12 ≤ A 263 10 ∧ A 263 10 ≤ 400) ∧ ((∀ i, i < 400 → A 269 i < 4294967296) ∧ ((1 ≤ 31 ∧ 31 < 40) ∧ ((((mt (A 269) (A 263 12) (A 263 10) 31) = false) → (A 263 12 ≤ A 263 10 ∧ A 263 10 ≤ 400) ∧ ((∀ i, i < 400 → A 269 i < 4294967296) ∧ ((1 ≤ 32 ∧ 32 < 40) ∧ ((((mt (A 269) (A 263 12) (A 263 10) 32) = false) → (A 263 12 ≤ A 263 10 ∧ A 263 10 ≤ 400) ∧ ((∀ i, i < 400 → A 269 i < 4294967296) ∧ ((1 ≤ 33 ∧ 33 < 40) ∧ ((((mt (A 269) (A 263 12) (A 263 10) 33) = false) → (A 263 12 ≤ A 263 10 ∧ A 263 10 ≤ 400) ∧ ((∀ i, i < 400 → A 269 i < 4294967296) ∧ ((1 ≤ 34 ∧ 34 < 40) ∧ ((((mt (A 269) (A 263 12) (A 263 10) 34) = false) → (A 263 12 ≤ A 263 10 ∧ A 263 10 ≤ 400) ∧ ((∀ i, i < 400 → A 269 i < 4294967296) ∧ ((1 ≤ 35 ∧ 35 < 40) ∧ ((((mt (A 269) (A 263 12) (A 263 10) 35) = false) → P (.inl (some (.int (nI 4294967295))), (G, (mI A, j), cc))) ∧ (((mt (A 269) (A 263 12) (A 263 10) 35) = true) → P (.inl (some (.int (nI 6))), (G, (mI A, j), cc))))))) ∧ (((mt (A 269) (A 263 12) (A 263 10) 34) = true) → P (.inl (some (.int (nI 5))), (G, (mI A, j), cc))))))) ∧ (((mt (A 269) (A 263 12) (A 263 10) 33) = true) → P (.inl (some (.int (nI 4))), (G, (mI A, j), cc))))))) ∧ (((mt (A 269) (A 263 12) (A 263 10) 32) = true) → P (.inl (some (.int (nI 3))), (G, (mI A, j), cc))))))) ∧ (((mt (A 269) (A 263 12) (A 263 10) 31) = true) → P (.inl (some (.int (nI 2))), (G, (mI A, j), cc))))))) ∧ (((mt (A 269) (A 263 12) (A 263 10) 30) = true) → P (.inl (some (.int (nI 1))), (G, (mI A, j), cc))))))) ∧ (((mt (A 269) (A 263 12) (A 263 10) 22) = true) → P (.inl (some (.int (nI 0))), (G, (mI A, j), cc))))))) : EvP X (d + 1) gvm_234 0 (gv_enter [.ref 263] 1) [] (G, (mI A, j), cc) P :=
  (pv_aload_n rfl rfl   (pv_ldcS rfl   (pv_virt rfl rfl rfl rfl rfl (oX12_k hp263) rfl rfl rfl (r_isWord (q := 22) (A := A) hp263 H.1 H.2.1 H.2.2.1 ) (pv_if_eq_zo rfl  (fun c1 => (pv_aload_n rfl rfl   (pv_ldcS rfl   (pv_virt rfl rfl rfl rfl rfl (oX12_k hp263) rfl rfl rfl (r_isWord (q := 30) (A := A) hp263 (H.2.2.2.1 c1).1 (H.2.2.2.1 c1).2.1 (H.2.2.2.1 c1).2.2.1 ) (pv_if_eq_zo rfl  (fun c2 => (pv_aload_n rfl rfl   (pv_ldcS rfl   (pv_virt rfl rfl rfl rfl rfl (oX12_k hp263) rfl rfl rfl (r_isWord (q := 31) (A := A) hp263 ((H.2.2.2.1 c1).2.2.2.1 c2).1 ((H.2.2.2.1 c1).2.2.2.1 c2).2.1 ((H.2.2.2.1 c1).2.2.2.1 c2).2.2.1 ) (pv_if_eq_zo rfl  (fun c3 => (pv_aload_n rfl rfl   (pv_ldcS rfl   (pv_virt rfl rfl rfl rfl rfl (oX12_k hp263) rfl rfl rfl (r_isWord (q := 32) (A := A) hp263 (((H.2.2.2.1 c1).2.2.2.1 c2).2.2.2.1 c3).1 (((H.2.2.2.1 c1).2.2.2.1 c2).2.2.2.1 c3).2.1 (((H.2.2.2.1 c1).2.2.2.1 c2).2.2.2.1 c3).2.2.1 ) (pv_if_eq_zo rfl  (fun c4 => (pv_aload_n rfl rfl   (pv_ldcS rfl   (pv_virt rfl rfl rfl rfl rfl (oX12_k hp263) rfl rfl rfl (r_isWord (q := 33) (A := A) hp263 ((((H.2.2.2.1 c1).2.2.2.1 c2).2.2.2.1 c3).2.2.2.1 c4).1 ((((H.2.2.2.1 c1).2.2.2.1 c2).2.2.2.1 c3).2.2.2.1 c4).2.1 ((((H.2.2.2.1 c1).2.2.2.1 c2).2.2.2.1 c3).2.2.2.1 c4).2.2.1 ) (pv_if_eq_zo rfl  (fun c5 => (pv_aload_n rfl rfl   (pv_ldcS rfl   (pv_virt rfl rfl rfl rfl rfl (oX12_k hp263) rfl rfl rfl (r_isWord (q := 34) (A := A) hp263 (((((H.2.2.2.1 c1).2.2.2.1 c2).2.2.2.1 c3).2.2.2.1 c4).2.2.2.1 c5).1 (((((H.2.2.2.1 c1).2.2.2.1 c2).2.2.2.1 c3).2.2.2.1 c4).2.2.2.1 c5).2.1 (((((H.2.2.2.1 c1).2.2.2.1 c2).2.2.2.1 c3).2.2.2.1 c4).2.2.2.1 c5).2.2.1 ) (pv_if_eq_zo rfl  (fun c6 => (pv_aload_n rfl rfl   (pv_ldcS rfl   (pv_virt rfl rfl rfl rfl rfl (oX12_k hp263) rfl rfl rfl (r_isWord (q := 35) (A := A) hp263 ((((((H.2.2.2.1 c1).2.2.2.1 c2).2.2.2.1 c3).2.2.2.1 c4).2.2.2.1 c5).2.2.2.1 c6).1 ((((((H.2.2.2.1 c1).2.2.2.1 c2).2.2.2.1 c3).2.2.2.1 c4).2.2.2.1 c5).2.2.2.1 c6).2.1 ((((((H.2.2.2.1 c1).2.2.2.1 c2).2.2.2.1 c3).2.2.2.1 c4).2.2.2.1 c5).2.2.2.1 c6).2.2.1 ) (pv_if_eq_zo rfl  (fun c7 => (pn_iconst rfl (by decide)   (pv_ireti rfl rfl (((((((H.2.2.2.1 c1).2.2.2.1 c2).2.2.2.1 c3).2.2.2.1 c4).2.2.2.1 c5).2.2.2.1 c6).2.2.2.1 c7)))) (fun c7 => (pn_bipush rfl rfl   (pv_goto rfl (pv_ireti rfl rfl (((((((H.2.2.2.1 c1).2.2.2.1 c2).2.2.2.1 c3).2.2.2.1 c4).2.2.2.1 c5).2.2.2.1 c6).2.2.2.2 c7)))))))))) (fun c6 => (pn_iconst rfl rfl   (pv_ireti rfl rfl ((((((H.2.2.2.1 c1).2.2.2.1 c2).2.2.2.1 c3).2.2.2.1 c4).2.2.2.1 c5).2.2.2.2 c6))))))))) (fun c5 => (pn_iconst rfl rfl   (pv_ireti rfl rfl (((((H.2.2.2.1 c1).2.2.2.1 c2).2.2.2.1 c3).2.2.2.1 c4).2.2.2.2 c5))))))))) (fun c4 => (pn_iconst rfl rfl   (pv_ireti rfl rfl ((((H.2.2.2.1 c1).2.2.2.1 c2).2.2.2.1 c3).2.2.2.2 c4))))))))) (fun c3 => (pn_iconst rfl rfl   (pv_ireti rfl rfl (((H.2.2.2.1 c1).2.2.2.1 c2).2.2.2.2 c3))))))))) (fun c2 => (pn_iconst rfl rfl   (pv_ireti rfl rfl ((H.2.2.2.1 c1).2.2.2.2 c2))))))))) (fun c1 => (pn_iconst rfl rfl   (pv_ireti rfl rfl (H.2.2.2.2 c1))))))))
theorem r_wordOfPart_p {X : gv_X} {d : Nat} {G : gv_Sh} {A : Nat → Nat → Nat} {j : Nat → Nat → Int64} {cc : gv_Rs} {P : gv_O × gv_S → Prop}  (hp263 : oX12 G 263) (p0 : A 263 12 ≤ A 263 10 ∧ A 263 10 ≤ 400) (p1 : ∀ i, i < 400 → A 269 i < 4294967296) (hP : P (.inl (some (.int (nI (wpR (A 269) (A 263 12) (A 263 10))))), (G, (mI A, j), cc))) : EvP X (d + 1) gvm_234 0 (gv_enter [.ref 263] 1) [] (G, (mI A, j), cc) P := by
  refine w234 hp263  ⟨by (first | omega | assumption), ⟨by (first | omega | assumption), ⟨by (first | omega | assumption), ⟨fun c1 => ⟨by (first | omega | assumption), ⟨by (first | omega | assumption), ⟨by (first | omega | assumption), ⟨fun c2 => ⟨by (first | omega | assumption), ⟨by (first | omega | assumption), ⟨by (first | omega | assumption), ⟨fun c3 => ⟨by (first | omega | assumption), ⟨by (first | omega | assumption), ⟨by (first | omega | assumption), ⟨fun c4 => ⟨by (first | omega | assumption), ⟨by (first | omega | assumption), ⟨by (first | omega | assumption), ⟨fun c5 => ⟨by (first | omega | assumption), ⟨by (first | omega | assumption), ⟨by (first | omega | assumption), ⟨fun c6 => ⟨by (first | omega | assumption), ⟨by (first | omega | assumption), ⟨by (first | omega | assumption), ⟨fun c7 => ?_, fun c7 => ?_⟩⟩⟩⟩, fun c6 => ?_⟩⟩⟩⟩, fun c5 => ?_⟩⟩⟩⟩, fun c4 => ?_⟩⟩⟩⟩, fun c3 => ?_⟩⟩⟩⟩, fun c2 => ?_⟩⟩⟩⟩, fun c1 => ?_⟩⟩⟩⟩
  all_goals (refine qn hP ?_; unfold wpR; simp only [*, Bool.false_eq_true, if_true, if_false])
theorem r_wordOfPart {X : gv_X} {d : Nat} {G : gv_Sh} {A : Nat → Nat → Nat} {j : Nat → Nat → Int64} {cc : gv_Rs}  (hp263 : oX12 G 263) (p0 : A 263 12 ≤ A 263 10 ∧ A 263 10 ≤ 400) (p1 : ∀ i, i < 400 → A 269 i < 4294967296) : Ev X (d + 1) gvm_234 0 (gv_enter [.ref 263] 1) [] (G, (mI A, j), cc) (.inl (some (.int (nI (wpR (A 269) (A 263 12) (A 263 10))))), (G, (mI A, j), cc)) := evp_det (r_wordOfPart_p hp263 p0 p1 rfl)
theorem w233 {X : gv_X} {d : Nat} {G : gv_Sh} {A : Nat → Nat → Nat} {j : Nat → Nat → Int64} {cc : gv_Rs} {P : gv_O × gv_S → Prop} {code : Nat} {n : Nat} (hp263 : oX12 G 263) (H : ((1266 + (2 * (A 263 16))) < 2066) ∧ ((((1266 + (2 * (A 263 16))) + 1) < 2066) ∧ (P (.inl none, (G, (mI (gu (gu (gu A 264 (1266 + (2 * (A 263 16))) code) 264 ((1266 + (2 * (A 263 16))) + 1) n) 263 16 ((A 263 16) + 1)), j), cc))))) : EvP X (d + 0) gvm_233 0 (gv_enter [.ref 263, .int (nI code), .int (nI n)] 3) [] (G, (mI A, j), cc) P :=
  (pv_aload_n rfl rfl   (pv_getP rfl rfl (oX12_k hp263) (oX12_1 hp263)   (pn_sipush rfl rfl   (pn_iconst rfl rfl   (pv_aload_n rfl rfl   (pn_getI rfl rfl (oX12_k hp263) rfl   (pn_imul rfl   (pn_iadd rfl   (pv_iload_n rfl rfl   (pn_iast rfl (oX12_1c hp263) (by decide) H.1  (pv_aload_n rfl rfl   (pv_getP rfl rfl (oX12_k hp263) (oX12_1 hp263)   (pn_sipush rfl rfl   (pn_iconst rfl rfl   (pv_aload_n rfl rfl   (pn_getI rfl rfl (oX12_k hp263) (gu_q (by omega) rfl)   (pn_imul rfl   (pn_iadd rfl   (pn_iconst rfl rfl   (pn_iadd rfl   (pv_iload_n rfl rfl   (pn_iast rfl (oX12_1c hp263) (by decide) H.2.1  (pv_aload_n rfl rfl   (pv_dup rfl rfl   (pn_getI rfl rfl (oX12_k hp263) (gu_q (by omega) (gu_q (by omega) rfl))   (pn_iconst rfl rfl   (pn_iadd rfl   (pn_putI rfl rfl (oX12_k hp263)   (pv_vret rfl H.2.2)))))))))))))))))))))))))))))
