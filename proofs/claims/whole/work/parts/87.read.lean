/-! a line of the law -/
abbrev LlS := Bool × (Nat × Nat) × List (Nat × Nat) × Nat × Nat
def lkR (t : Nat → Nat) (b e : Nat) : Nat := if mt t b e 27 = true then 0 else if mt t b e 38 = true then 1 else if mt t b e 39 = true then 2 else 4294967295
def llT (t : Nat → Nat) (E kd v i : Nat) : LlS := if psB t E i 5 = true then ((pG t E 2100 2 0 (psE t E i 5)).1, (kd, v), (pG t E 2100 2 0 (psE t E i 5)).2.1, (pG t E 2100 2 0 (psE t E i 5)).2.2) else (true, (kd, v), [], psE t E i 5, skB t E i)
def llS (t : Nat → Nat) (E b i : Nat) : LlS := if lkR t b i = 4294967295 then (false, (0, 0), [], 0, b) else if nmV t E i 40 = 4294967295 then (false, (0, 0), [], 0, skB t E i) else llT t E (lkR t b i) (nmV t E i 40) (nmE t E i)
def llR (R : Nat → Nat) (n kd v c : Nat) (cs : List (Nat × Nat)) : Nat → Nat := seR (emL (seR (seR (seR R (1218 + 4 * n) kd) (1218 + 4 * n + 1) v) (1218 + 4 * n + 2) c) c cs) (1218 + 4 * n + 3) (c + cs.length)
def llP (A B : Nat → Nat → Nat) (n : Nat) (r : LlS) : Prop := (r.1 = true → B = ry A (llR (A 264) n r.2.1.1 r.2.1.2 (A 263 16) r.2.2.1) r.2.2.2.1 r.2.2.2.2 (A 263 16 + r.2.2.1.length) 0) ∧ (r.1 = false → B 263 12 = r.2.2.2.2 ∧ lwF A B)
theorem ps_5 {t : Nat → Nat} {E i : Nat} (hi : i ≤ E) (h : psB t E i 5 = true) : i + 1 ≤ psE t E i 5 := by
  have b := skB_b (t := t) hi
  unfold psE
  rw [if_pos h]
  unfold psB mt at h
  rw [Bool.and_eq_true] at h
  have e := of_decide_eq_true h.1
  have w : wl 5 = 2 := by decide +kernel
  omega
theorem gu_ry (A : Nat → Nat → Nat) (k v : Nat) : gu A 264 k v = ry A (seR (A 264) k v) (A 263 10) (A 263 12) (A 263 16) (A 263 13) := by
  rw [← ry_gu, ry_id]
theorem r_readLawLine_p {X : gv_X} {d : Nat} {G : gv_Sh} {A : Nat → Nat → Nat} {j : Nat → Nat → Int64} {cc : gv_Rs} {P : gv_O × gv_S → Prop} {n : Nat} (hp263 : oX12 G 263) (p0 : A 263 11 ≤ 400) (p1 : A 263 10 ≤ A 263 11) (p2 : ∀ i, i < 400 → A 269 i < 4294967296) (p3 : n < 12) (p4 : A 263 12 ≤ A 263 10) (p5 : A 263 16 ≤ A 263 10) (hP : ∀ A1 : Nat → Nat → Nat, (llP A A1 n (llS (A 269) (A 263 11) (A 263 12) (A 263 10))) → P (.inl (some (.int (zo (llS (A 269) (A 263 11) (A 263 12) (A 263 10)).1))), (G, (mI A1, j), cc))) : EvP X (d + 27) gvm_241 0 (gv_enter [.ref 263, .int (nI n)] 3) [] (G, (mI A, j), cc) P := by
  obtain ⟨r, hr⟩ : ∃ r : LlS, (llS (A 269) (A 263 11) (A 263 12) (A 263 10)) = r := ⟨_, rfl⟩
  rw [hr] at hP
  have b1 := skB_b (t := (A 269)) (E := (A 263 11)) p1
  have b2 := nmE_b (t := (A 269)) (E := (A 263 11)) p1
  have b3 := psE_b (t := (A 269)) (E := (A 263 11)) (q := 5) b2.2
  have b4 := skB_b (t := (A 269)) (E := (A 263 11)) b2.2
  have hv := nmV_lt (t := (A 269)) (E := (A 263 11)) (i := (A 263 10)) (h := 40) p1 (by omega)
  have T : ∀ kd, kd < 3 → lkR (A 269) (A 263 12) (A 263 10) = kd → EvP X (d + 27) gvm_241 67 [some (.ref 263), some (.int (nI n)), some (.int (nI (1218 + (4 * n))))] [] (G, (mI (gu A 264 (1218 + (4 * n)) kd), j), cc) P := by
    intro kd hk hkd
    have hk2 : ¬ lkR (A 269) (A 263 12) (A 263 10) = 4294967295 := by omega
    obtain ⟨M, hM⟩ : ∃ M, M = ry A (seR (A 264) (1218 + (4 * n)) kd) (A 263 10) (A 263 12) (A 263 16) (A 263 13) := ⟨_, rfl⟩
    have m10 : M 263 10 = (A 263 10) := by rw [hM, ry_p]
    have m11 : M 263 11 = (A 263 11) := by rw [hM, ry_11]
    have m9 : M 269 = (A 269) := by rw [hM, ry_9]
    rw [gu_ry, ← hM]
    refine w241_67 hp263 ⟨by omega, by omega, by rw [m9]; exact p2, rfl, by omega, fun A1 q1 => ?_⟩
    simp only [m9, m10, m11] at q1 ⊢
    rw [hM, ry_lx] at q1
    refine ⟨by omega, by omega, by omega, fun c2 => ⟨by omega, ?_⟩, fun c2 => ?_⟩
    · have hv2 : ¬ (nmV (A 269) (A 263 11) (A 263 10) 40) = 4294967295 := by omega
      have S1 : r = llT (A 269) (A 263 11) kd (nmV (A 269) (A 263 11) (A 263 10) 40) (nmE (A 269) (A 263 11) (A 263 10)) := by
        rw [← hr]
        show (if lkR (A 269) (A 263 12) (A 263 10) = 4294967295 then _ else _) = _
        rw [if_neg hk2, if_neg hv2, hkd]
      obtain ⟨N, hN⟩ : ∃ N, N = ry A (seR (seR (seR (A 264) (1218 + (4 * n)) kd) ((1218 + (4 * n)) + 1) (nmV (A 269) (A 263 11) (A 263 10) 40)) ((1218 + (4 * n)) + 2) (A 263 16)) (nmE (A 269) (A 263 11) (A 263 10)) (skB (A 269) (A 263 11) (A 263 10)) (A 263 16) 0 := ⟨_, rfl⟩
      have e : gu (gu (gu A1 264 ((1218 + (4 * n)) + 1) (nmV (A 269) (A 263 11) (A 263 10) 40)) 264 ((1218 + (4 * n)) + 2) (A1 263 16)) 263 13 0 = N := by rw [q1, ry_n, ry_gu, ry_gu, ry_13, hN]
      have n10 : N 263 10 = (nmE (A 269) (A 263 11) (A 263 10)) := by rw [hN, ry_p]
      have n11 : N 263 11 = (A 263 11) := by rw [hN, ry_11]
      have n9 : N 269 = (A 269) := by rw [hN, ry_9]
      rw [e]
      refine w241_112 hp263 ⟨by omega, by omega, by rw [n9]; exact p2, by omega, fun A2 q2 => ?_⟩
      simp only [n9, n10, n11] at q2 ⊢
      rw [hN, ry_lx] at q2
      have a10 : A2 263 10 = psE (A 269) (A 263 11) (nmE (A 269) (A 263 11) (A 263 10)) 5 := by rw [q2, ry_p]
      have a11 : A2 263 11 = (A 263 11) := by rw [q2, ry_11]
      have a9 : A2 269 = (A 269) := by rw [q2, ry_9]
      have a16 : A2 263 16 = A 263 16 := by rw [q2, ry_n]
      have a13 : A2 263 13 = 0 := by rw [q2, ry_d]
      refine ⟨fun c3 => ?_, fun c3 => ?_⟩
      · have hs : r = (true, (kd, (nmV (A 269) (A 263 11) (A 263 10) 40)), [], psE (A 269) (A 263 11) (nmE (A 269) (A 263 11) (A 263 10)) 5, skB (A 269) (A 263 11) (nmE (A 269) (A 263 11) (A 263 10))) := by
          rw [S1]
          show (if psB (A 269) (A 263 11) (nmE (A 269) (A 263 11) (A 263 10)) 5 = true then _ else _) = _
          rw [if_neg (by rw [c3]; decide)]
        refine w241_131 hp263 ⟨by omega, ?_⟩
        rw [hs] at hP
        exact qz1 (hP _ ⟨fun _ => by rw [q2, ry_n, ry_gu]; rfl, fun z => (by cases z)⟩) rfl
      · have b5 := ps_5 b2.2 c3
        have hs : r = ((pG (A 269) (A 263 11) 2100 2 0 (psE (A 269) (A 263 11) (nmE (A 269) (A 263 11) (A 263 10)) 5)).1, (kd, (nmV (A 269) (A 263 11) (A 263 10) 40)), (pG (A 269) (A 263 11) 2100 2 0 (psE (A 269) (A 263 11) (nmE (A 269) (A 263 11) (A 263 10)) 5)).2.1, (pG (A 269) (A 263 11) 2100 2 0 (psE (A 269) (A 263 11) (nmE (A 269) (A 263 11) (A 263 10)) 5)).2.2) := by
          rw [S1]
          show (if psB (A 269) (A 263 11) (nmE (A 269) (A 263 11) (A 263 10)) 5 = true then _ else _) = _
          rw [if_pos c3]
        refine ⟨by omega, by omega, by rw [a9]; exact p2, by omega, a13, fun A3 h3 => ?_⟩
        simp only [a9, a10, a11] at h3 ⊢
        refine ⟨fun c4 => ?_, fun c4 => ?_⟩
        · have q := h3.1 c4
          rw [q2] at q
          simp only [ry_4, ry_n, ry_d, ry_ry] at q
          refine w241_131 hp263 ⟨by omega, ?_⟩
          rw [hs] at hP
          exact qz1 (hP _ ⟨fun _ => by rw [q, ry_n, ry_gu]; rfl, fun z => absurd c4 (by rw [show (pG (A 269) (A 263 11) 2100 2 0 (psE (A 269) (A 263 11) (nmE (A 269) (A 263 11) (A 263 10)) 5)).1 = false from z]; decide)⟩) c4
        · have q := h3.2 c4
          rw [hs] at hP
          refine qz0 (hP A3 ⟨fun z => absurd z (by show ¬ (pG (A 269) (A 263 11) 2100 2 0 (psE (A 269) (A 263 11) (nmE (A 269) (A 263 11) (A 263 10)) 5)).1 = true; rw [c4]; decide), fun _ => ⟨q.1, lwF_tr ?_ q.2⟩⟩) c4
          rw [q2]
          exact lwF_ry (fun i hi => by rw [seR_ne (by omega), seR_ne (by omega), seR_ne (by omega)])
    · have hv2 : (nmV (A 269) (A 263 11) (A 263 10) 40) = 4294967295 := by omega
      have hs : r = (false, (0, 0), [], 0, skB (A 269) (A 263 11) (A 263 10)) := by
        rw [← hr]
        show (if lkR (A 269) (A 263 12) (A 263 10) = 4294967295 then _ else _) = _
        rw [if_neg hk2, if_pos hv2]
      rw [hs] at hP
      refine qz0 (hP _ ⟨fun z => (by cases z), fun _ => ?_⟩) rfl
      rw [q1, ry_gu]
      exact ⟨ry_b _ _ _ _ _ _, lwF_ry (fun i hi => by rw [seR_ne (by omega), seR_ne (by omega)])⟩
  refine w241 hp263  ⟨by (first | omega | assumption | exact ⟨p4, by omega⟩), ⟨by (first | omega | assumption | exact ⟨p4, by omega⟩), ⟨by (first | omega | assumption | exact ⟨p4, by omega⟩), ⟨fun c1 => ⟨by (first | omega | assumption | exact ⟨p4, by omega⟩), ⟨by (first | omega | assumption | exact ⟨p4, by omega⟩), ⟨by (first | omega | assumption | exact ⟨p4, by omega⟩), ⟨fun c2 => ⟨by (first | omega | assumption | exact ⟨p4, by omega⟩), ⟨by (first | omega | assumption | exact ⟨p4, by omega⟩), ⟨by (first | omega | assumption | exact ⟨p4, by omega⟩), ⟨fun c3 => ⟨by (first | omega | assumption | exact ⟨p4, by omega⟩), ⟨by (first | omega | assumption | exact ⟨p4, by omega⟩), ?_⟩⟩, fun c3 => ⟨by (first | omega | assumption | exact ⟨p4, by omega⟩), ⟨by (first | omega | assumption | exact ⟨p4, by omega⟩), ?_⟩⟩⟩⟩⟩⟩, fun c2 => ⟨by (first | omega | assumption | exact ⟨p4, by omega⟩), ⟨by (first | omega | assumption | exact ⟨p4, by omega⟩), ?_⟩⟩⟩⟩⟩⟩, fun c1 => ⟨by (first | omega | assumption | exact ⟨p4, by omega⟩), ⟨by (first | omega | assumption | exact ⟨p4, by omega⟩), ?_⟩⟩⟩⟩⟩⟩
  · have hs : r = (false, (0, 0), [], 0, (A 263 12)) := by
      rw [← hr]
      unfold llS
      rw [if_pos (by unfold lkR; rw [if_neg (by rw [c1]; decide), if_neg (by rw [c2]; decide), if_neg (by rw [c3]; decide)])]
    rw [hs] at hP
    refine qz0 (hP _ ⟨fun z => (by cases z), fun _ => ?_⟩) rfl
    rw [gu_ry]
    exact ⟨ry_b _ _ _ _ _ _, lwF_ry (fun i hi => by rw [seR_ne (by omega)])⟩
  · exact T 2 (by decide) (by unfold lkR; rw [if_neg (by rw [c1]; decide), if_neg (by rw [c2]; decide), if_pos c3])
  · exact T 1 (by decide) (by unfold lkR; rw [if_neg (by rw [c1]; decide), if_pos c2])
  · exact T 0 (by decide) (by unfold lkR; rw [if_pos c1])
theorem r_readLawLine {X : gv_X} {d : Nat} {G : gv_Sh} {A : Nat → Nat → Nat} {j : Nat → Nat → Int64} {cc : gv_Rs} {n : Nat} (hp263 : oX12 G 263) (p0 : A 263 11 ≤ 400) (p1 : A 263 10 ≤ A 263 11) (p2 : ∀ i, i < 400 → A 269 i < 4294967296) (p3 : n < 12) (p4 : A 263 12 ≤ A 263 10) (p5 : A 263 16 ≤ A 263 10) : ∃ A1 : Nat → Nat → Nat, Ev X (d + 27) gvm_241 0 (gv_enter [.ref 263, .int (nI n)] 3) [] (G, (mI A, j), cc) (.inl (some (.int (zo (llS (A 269) (A 263 11) (A 263 12) (A 263 10)).1))), (G, (mI A1, j), cc)) ∧ (llP A A1 n (llS (A 269) (A 263 11) (A 263 12) (A 263 10))) := by
  obtain ⟨_, h, A1, rfl, hp⟩ := r_readLawLine_p (X := X) (d := d) (G := G) (A := A) (j := j) (cc := cc) (n := n) (P := fun r => ∃ A1 : Nat → Nat → Nat, r = (.inl (some (.int (zo (llS (A 269) (A 263 11) (A 263 12) (A 263 10)).1))), (G, (mI A1, j), cc)) ∧ (llP A A1 n (llS (A 269) (A 263 11) (A 263 12) (A 263 10)))) hp263 p0 p1 p2 p3 p4 p5 (fun A1 h => ⟨A1, rfl, h⟩)
  exact ⟨A1, h, hp⟩
