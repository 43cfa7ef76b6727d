/-! what a bench line leaves -/
theorem okW_v {R : Nat → Nat} (h : okW R) {k v : Nat} (hk : (k = 4 ∧ v ≤ 9) ∨ (k = 5 ∧ v ≤ 6 ∧ v % 2 = 0) ∨ (k = 6 ∧ v ≤ 7) ∨ (k = 7 ∧ v ≤ 100) ∨ (k = 9 ∧ v ≤ 999) ∨ (22 ≤ k ∧ k < 30 ∧ v ≤ 3) ∨ (12 ≤ k ∧ k < 22 ∧ v < R 0)) : okW (seR R k v) := by
  have g : ∀ i, (seR R k v i = R i ∧ i ≠ k) ∨ (i = k ∧ seR R k v i = v) := by
    intro i
    by_cases e : i = k
    · subst e; exact Or.inr ⟨rfl, seR_at _ _ _⟩
    · exact Or.inl ⟨seR_ne e, e⟩
  obtain ⟨S, hS⟩ : ∃ S, seR R k v = S := ⟨_, rfl⟩
  rw [hS] at g ⊢
  have n := okW_n h
  have g0 := g 0; have g1 := g 1; have g2 := g 2; have g3 := g 3; have g4 := g 4; have g5 := g 5; have g6 := g 6; have g7 := g 7; have g8 := g 8; have g9 := g 9; have g10 := g 10; have g11 := g 11
  refine ⟨⟨by omega, by omega, by omega, by omega, by omega, by omega, by omega, by omega, by omega, by omega, by omega, by omega, by omega⟩, fun j hj => ?_, fun j hj => ?_, fun j hj => ?_, fun p hp => ?_, fun p hp => ?_, fun q hq => ?_, fun j hj => ?_⟩
  · have a := g (12 + j); have b := okW_p h hj; omega
  · have a := g (12 + j); have b := okW_pl h (k := j) (by omega); omega
  · have a := g (22 + j); have b := okW_c h hj; omega
  · have e : (fun i => S (30 + 9 * p + i)) = fun i => R (30 + 9 * p + i) := by
      funext i
      have a := g (30 + 9 * p + i); omega
    rw [e]; exact h.2.2.2.2.1 p hp
  · have a := g (30 + 9 * p + 0); have b := okW_1 h (p := p) (by omega); omega
  · have e : (fun i => S (102 + 13 * q + i)) = fun i => R (102 + 13 * q + i) := by
      funext i
      have a := g (102 + 13 * q + i); omega
    rw [e]; exact h.2.2.2.2.2.2.1 q hq
  · have a := g (128 + j); have b := okW_l h hj; omega
theorem okW_3 {R : Nat → Nat} (h : okW R) {n : Nat} (hn : n ≤ 10) (hk : ∀ k, k < n → R (12 + k) < R 0) : okW (seR R 3 n) := by
  have g : ∀ i, i ≠ 3 → seR R 3 n i = R i := fun i hi => seR_ne hi
  have g3 : seR R 3 n 3 = n := seR_at _ _ _
  obtain ⟨S, hS⟩ : ∃ S, seR R 3 n = S := ⟨_, rfl⟩
  rw [hS] at g g3 ⊢
  have nn := okW_n h
  refine ⟨?_, fun j hj => ?_, fun j hj => ?_, fun j hj => ?_, fun p hp => ?_, fun p hp => ?_, fun q hq => ?_, fun j hj => ?_⟩
  · rw [g 0 (by decide), g 1 (by decide), g 2 (by decide), g3, g 4 (by decide), g 5 (by decide), g 6 (by decide), g 7 (by decide), g 8 (by decide), g 9 (by decide), g 10 (by decide), g 11 (by decide)]
    omega
  · rw [g _ (by omega)]; exact okW_p h hj
  · rw [g _ (by omega), g 0 (by decide)]; exact hk j (by omega)
  · rw [g _ (by omega)]; exact okW_c h hj
  · have e : (fun i => S (30 + 9 * p + i)) = fun i => R (30 + 9 * p + i) := by
      funext i
      exact g _ (by omega)
    rw [e]; exact h.2.2.2.2.1 p hp
  · rw [g 0 (by decide)] at hp
    rw [g _ (by omega)]; exact okW_1 h hp
  · have e : (fun i => S (102 + 13 * q + i)) = fun i => R (102 + 13 * q + i) := by
      funext i
      exact g _ (by omega)
    rw [e]; exact h.2.2.2.2.2.2.1 q hq
  · rw [g _ (by omega)]; exact okW_l h hj
theorem rnS_ok {t R : Nat → Nat} {E i ad v : Nat} (h : okW R) (hi : i ≤ E) (hv : (ad = 4 ∧ v = 9) ∨ (ad = 6 ∧ v = 7) ∨ (ad = 7 ∧ v = 100) ∨ (ad = 9 ∧ v = 999)) (hs : (rnS t E R i ad v).1 = true) : okW (rnS t E R i ad v).2.1 ∧ (rnS t E R i ad v).2.2.1 ≤ E := by
  have b := nmE_b (t := t) hi
  have w := nmV_lt (t := t) (E := E) (i := i) (h := v) hi (by omega)
  refine ⟨?_, b.2⟩
  show okW (if nmV t E i v = 4294967295 then R else seR R ad (nmV t E i v))
  by_cases e : nmV t E i v = 4294967295
  · rw [if_pos e]; exact h
  · rw [if_neg e]
    exact okW_v h (by omega)
theorem shS_ok {t R : Nat → Nat} {E i : Nat} (h : okW R) (hi : i ≤ E) (hs : (shS t E R i).1 = true) : okW (shS t E R i).2.1 ∧ (shS t E R i).2.2.1 ≤ E := by
  have b := nmE_b (t := t) hi
  have w := nmV_lt (t := t) (E := E) (i := i) (h := 3) hi (by omega)
  refine ⟨?_, b.2⟩
  show okW (if nmV t E i 3 = 4294967295 then R else seR R 5 (nmV t E i 3 * 2))
  by_cases e : nmV t E i 3 = 4294967295
  · rw [if_pos e]; exact h
  · rw [if_neg e]
    exact okW_v h (by omega)
theorem ceS_ok {t : Nat → Nat} {E : Nat} : ∀ {f : Nat} {R : Nat → Nat} {n i : Nat}, okW R → i ≤ E → (ceS t E f R n i).1 = true → okW (ceS t E f R n i).2.1 ∧ (ceS t E f R n i).2.2.1 ≤ E
  | 0, R, n, i, _, _, hs => by cases hs
  | f + 1, R, n, i, h, hi, hs => by
    have b := nmE_b (t := t) hi
    have b2 := skB_b (t := t) b.2
    have w := nmV_lt (t := t) (E := E) (i := i) (h := 3) hi (by omega)
    unfold ceS at hs ⊢
    by_cases c : nmV t E i 3 = 4294967295 ∨ 8 ≤ n
    · rw [if_pos c] at hs; cases hs
    · rw [if_neg c] at hs ⊢
      have h2 : okW (seR R (22 + n) (nmV t E i 3)) := okW_v h (by omega)
      by_cases c2 : nnB t E (nmE t E i) = true
      · rw [if_pos c2] at hs ⊢
        exact ceS_ok h2 b2.2 hs
      · rw [if_neg c2]
        exact ⟨h2, b2.2⟩
theorem pgS_ok {t : Nat → Nat} {E : Nat} : ∀ {f : Nat} {R : Nat → Nat} {n i : Nat}, okW R → i ≤ E → n ≤ 10 → (∀ k, k < n → R (12 + k) < R 0) → (pgS t E f R n i).1 = true → okW (pgS t E f R n i).2.1 ∧ (pgS t E f R n i).2.2.1 ≤ E
  | 0, R, n, i, _, _, _, _, hs => by cases hs
  | f + 1, R, n, i, h, hi, hn, hk, hs => by
    have b := nmE_b (t := t) hi
    have b2 := skB_b (t := t) hi
    have nn := okW_n h
    have w := nmV_l (t := t) (E := E) (i := i) (n := R 0) hi nn.1
    unfold pgS at hs ⊢
    by_cases c : nnB t E i = true
    · rw [if_pos c] at hs ⊢
      by_cases c2 : nmV t E i ((R 0 + 4294967296 - 1) % 4294967296) = 4294967295 ∨ 10 ≤ n
      · rw [if_pos c2] at hs; cases hs
      · rw [if_neg c2] at hs ⊢
        refine pgS_ok (okW_v h (by omega)) b.2 (by omega) (fun k hk2 => ?_) hs
        rw [seR_ne (i := 0) (by omega)]
        by_cases e : k = n
        · subst e; rw [seR_at]; omega
        · rw [seR_ne (by omega)]; exact hk k (by omega)
    · rw [if_neg c]
      exact ⟨okW_3 h hn hk, b2.2⟩
