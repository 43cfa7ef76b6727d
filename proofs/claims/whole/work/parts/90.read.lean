/-! what an op's line leaves -/
def okD (R S : Nat → Nat) (p : Nat) : Prop := (∀ i, (i < 30 + 9 * p ∨ 39 + 9 * p ≤ i) → S i = R i) ∧ S (30 + 9 * p + 0) ≤ 3 ∧ S (30 + 9 * p + 1) ≤ 1 ∧ S (30 + 9 * p + 2) ≤ 1 ∧ ∀ k, k < 3 → S (30 + 9 * p + (3 + 2 * k)) ≤ 10 ∧ S (30 + 9 * p + (3 + 2 * k + 1)) ≤ 7
theorem okD_mc {R S : Nat → Nat} {p k v : Nat} (h : okD R S p) (h3 : S (30 + 9 * p + 0) < 3) (hk : k ≤ 10) (hv : v ≤ 7) : okD R (mcR S p k v) p := by
  obtain ⟨m, hm⟩ : ∃ m, S (30 + 9 * p + 0) = m := ⟨_, rfl⟩
  have e : ∀ i, mcR S p k v i = if i = 30 + 9 * p + 0 then m + 1 else if i = 30 + 9 * p + (3 + 2 * m + 1) then v else if i = 30 + 9 * p + (3 + 2 * m) then k else S i := by
    intro i
    unfold mcR seR
    rw [hm]
  rw [hm] at h3
  refine ⟨fun i hi => ?_, ?_, ?_, ?_, fun j hj => ⟨?_, ?_⟩⟩
  · rw [e, if_neg (by omega), if_neg (by omega), if_neg (by omega)]; exact h.1 i hi
  · rw [e, if_pos rfl]; omega
  · rw [e, if_neg (by omega), if_neg (by omega), if_neg (by omega)]; exact h.2.2.1
  · rw [e, if_neg (by omega), if_neg (by omega), if_neg (by omega)]; exact h.2.2.2.1
  · rw [e, if_neg (by omega), if_neg (by omega)]
    split
    · exact hk
    · exact (h.2.2.2.2 j hj).1
  · rw [e, if_neg (by omega)]
    split
    · exact hv
    · rw [if_neg (by omega)]; exact (h.2.2.2.2 j hj).2
theorem mcS_ok {t R : Nat → Nat} {E p : Nat} : ∀ {f : Nat} {S : Nat → Nat} {i : Nat}, okD R S p → i ≤ E → (mcS t E p f S i).1 = true → okD R (mcS t E p f S i).2.1 p ∧ (mcS t E p f S i).2.2.1 ≤ E ∧ S (30 + 9 * p + 0) ≤ (mcS t E p f S i).2.1 (30 + 9 * p + 0) ∧ (kdR t (skB t E i) (ltE t E (skB t E i)) ≠ 4294967295 → 1 ≤ (mcS t E p f S i).2.1 (30 + 9 * p + 0))
  | 0, S, i, _, _, hs => by cases hs
  | f + 1, S, i, h, hi, hs => by
    have b := skB_b (t := t) hi
    have b2 := ltE_b (t := t) b.2
    have b3 := nmE_b (t := t) b2.2
    have hk := kdR_le t (skB t E i) (ltE t E (skB t E i))
    have w := nmV_lt (t := t) (E := E) (i := ltE t E (skB t E i)) (h := 7) b2.2 (by omega)
    have h0 := h.2.1
    unfold mcS at hs ⊢
    by_cases c : kdR t (skB t E i) (ltE t E (skB t E i)) = 4294967295
    · rw [if_pos c]
      exact ⟨h, b.2, Nat.le_refl _, fun z => absurd c z⟩
    · rw [if_neg c] at hs ⊢
      by_cases c2 : S (30 + 9 * p + 0) = 3
      · rw [if_pos c2] at hs; cases hs
      · rw [if_neg c2] at hs ⊢
        by_cases c3 : hnB (kdR t (skB t E i) (ltE t E (skB t E i))) = true
        · rw [if_pos c3] at hs ⊢
          by_cases c4 : nmV t E (ltE t E (skB t E i)) 7 = 4294967295
          · rw [if_pos c4] at hs; cases hs
          · rw [if_neg c4] at hs ⊢
            have r := mcS_ok (okD_mc h (by omega) (by omega) (by omega)) b3.2 hs
            have r3 := r.2.2.1
            rw [mcR_0] at r3
            exact ⟨r.1, r.2.1, by omega, fun _ => by omega⟩
        · rw [if_neg c3] at hs ⊢
          have r := mcS_ok (okD_mc h (by omega) (by omega) (by omega)) b2.2 hs
          have r3 := r.2.2.1
          rw [mcR_0] at r3
          exact ⟨r.1, r.2.1, by omega, fun _ => by omega⟩
theorem msS_ok {t R S : Nat → Nat} {E p i : Nat} (h : okD R S p) (hi : i ≤ E) (hs : (msS t E p S i).1 = true) : okD R (msS t E p S i).2.1 p ∧ (msS t E p S i).2.2.1 ≤ E ∧ 1 ≤ (msS t E p S i).2.1 (30 + 9 * p + 0) := by
  unfold msS at hs ⊢
  by_cases c : kdR t (skB t E i) (ltE t E (skB t E i)) = 4294967295
  · rw [if_pos c] at hs; cases hs
  · rw [if_neg c] at hs ⊢
    have r := mcS_ok h hi hs
    exact ⟨r.1, r.2.1, r.2.2.2 c⟩
theorem okW_op {R S : Nat → Nat} (h : okW R) (h8 : R 0 < 8) (d : okD R S (R 0)) (h1 : 1 ≤ S (30 + 9 * R 0 + 0)) : okW (seR S 0 (S 0 + 1)) := by
  have n := okW_n h
  have s0 : S 0 = R 0 := d.1 0 (by omega)
  have g : ∀ i, i ≠ 0 → (i < 30 + 9 * R 0 ∨ 39 + 9 * R 0 ≤ i) → seR S 0 (S 0 + 1) i = R i := fun i hi h2 => by rw [seR_ne hi]; exact d.1 i h2
  have g0 : seR S 0 (S 0 + 1) 0 = R 0 + 1 := by rw [seR_at, s0]
  have g2 : ∀ i, i ≠ 0 → seR S 0 (S 0 + 1) i = S i := fun i hi => seR_ne hi
  obtain ⟨T, hT⟩ : ∃ T, seR S 0 (S 0 + 1) = T := ⟨_, rfl⟩
  rw [hT] at g g0 g2 ⊢
  refine ⟨?_, fun j hj => ?_, fun j hj => ?_, fun j hj => ?_, fun p hp => ?_, fun p hp => ?_, fun q hq => ?_, fun j hj => ?_⟩
  · rw [g0, g 1 (by decide) (by omega), g 2 (by decide) (by omega), g 3 (by decide) (by omega), g 4 (by decide) (by omega), g 5 (by decide) (by omega), g 6 (by decide) (by omega), g 7 (by decide) (by omega), g 8 (by decide) (by omega), g 9 (by decide) (by omega), g 10 (by decide) (by omega), g 11 (by decide) (by omega)]
    omega
  · rw [g _ (by omega) (by omega)]; exact okW_p h hj
  · rw [g 3 (by decide) (by omega)] at hj
    have b := okW_pl h hj
    rw [g _ (by omega) (by omega), g0]; omega
  · rw [g _ (by omega) (by omega)]; exact okW_c h hj
  · by_cases e : p = R 0
    · rw [e]
      refine ⟨?_, ?_, ?_, fun k hk => ⟨?_, ?_⟩⟩
      · show T (30 + 9 * R 0 + 0) ≤ 3
        rw [g2 _ (by omega)]; exact d.2.1
      · show T (30 + 9 * R 0 + 1) ≤ 1
        rw [g2 _ (by omega)]; exact d.2.2.1
      · show T (30 + 9 * R 0 + 2) ≤ 1
        rw [g2 _ (by omega)]; exact d.2.2.2.1
      · show T (30 + 9 * R 0 + (3 + 2 * k)) ≤ 10
        rw [g2 _ (by omega)]; exact (d.2.2.2.2 k hk).1
      · show T (30 + 9 * R 0 + (3 + 2 * k + 1)) ≤ 7
        rw [g2 _ (by omega)]; exact (d.2.2.2.2 k hk).2
    · have o := okW_o h hp
      refine ⟨?_, ?_, ?_, fun k hk => ⟨?_, ?_⟩⟩
      · show T (30 + 9 * p + 0) ≤ 3
        rw [g _ (by omega) (by omega)]; exact o.1
      · show T (30 + 9 * p + 1) ≤ 1
        rw [g _ (by omega) (by omega)]; exact o.2.1
      · show T (30 + 9 * p + 2) ≤ 1
        rw [g _ (by omega) (by omega)]; exact o.2.2
      · show T (30 + 9 * p + (3 + 2 * k)) ≤ 10
        rw [g _ (by omega) (by omega)]; exact (okW_m h hp hk).1
      · show T (30 + 9 * p + (3 + 2 * k + 1)) ≤ 7
        rw [g _ (by omega) (by omega)]; exact (okW_m h hp hk).2
  · by_cases e : p = R 0
    · rw [e, g2 _ (by omega)]; exact h1
    · rw [g _ (by omega) (by omega)]
      exact okW_1 h (by omega)
  · have e : ∀ i, T (102 + 13 * q + i) = R (102 + 13 * q + i) := fun i => g _ (by omega) (by omega)
    have e2 : (fun i => T (102 + 13 * q + i)) = fun i => R (102 + 13 * q + i) := funext e
    rw [e2]; exact h.2.2.2.2.2.2.1 q hq
  · rw [g _ (by omega) (by omega)]; exact okW_l h hj
theorem opS_ok {t R : Nat → Nat} {E i b : Nat} (h : okW R) (hi : i ≤ E) (hs : (opS t E R i b).1 = true) : okW (opS t E R i b).2.1 ∧ (opS t E R i b).2.2.1 ≤ E := by
  have n := okW_n h
  have b1 := psE_b (t := t) (q := 2) hi
  unfold opS at hs ⊢
  by_cases c : R 0 = 8
  · rw [if_pos c] at hs; cases hs
  · rw [if_neg c] at hs ⊢
    have d : okD R (seR (zpN R (R 0) 9) (30 + 9 * R 0 + 1) (psB t E i 2).toNat) (R 0) := by
      have z : ∀ k, k < 9 → zpN R (R 0) 9 (30 + 9 * R 0 + k) = 0 := fun k hk => if_pos ⟨by omega, by omega⟩
      refine ⟨fun i hi => ?_, ?_, ?_, ?_, fun k hk => ⟨?_, ?_⟩⟩
      · rw [seR_ne (by omega)]
        exact if_neg (by omega)
      · rw [seR_ne (by omega), z _ (by omega)]; omega
      · rw [seR_at]
        cases psB t E i 2 <;> decide
      · rw [seR_ne (by omega), z _ (by omega)]; omega
      · rw [seR_ne (by omega), z _ (by omega)]; omega
      · rw [seR_ne (by omega), z _ (by omega)]; omega
    by_cases c2 : (msS t E (R 0) (seR (zpN R (R 0) 9) (30 + 9 * R 0 + 1) (psB t E i 2).toNat) (psE t E i 2)).1 = true
    · rw [if_pos c2]
      have r := msS_ok d b1.2 c2
      exact ⟨okW_op h (by omega) r.1 r.2.2, r.2.1⟩
    · rw [if_neg c2] at hs
      exact absurd hs c2
theorem blS_ok {t R : Nat → Nat} {E i b : Nat} (h : okW R) (hi : i ≤ E) (hs : (blS t E R i b).1 = true) : okW (blS t E R i b).2.1 ∧ (blS t E R i b).2.2.1 ≤ E := by
  unfold blS at hs ⊢
  by_cases c1 : mt t b i 22 = true
  · rw [if_pos c1] at hs ⊢; exact opS_ok h hi hs
  rw [if_neg c1] at hs ⊢
  by_cases c2 : mt t b i 23 = true
  · rw [if_pos c2] at hs ⊢; exact pgS_ok h hi (by omega) (fun k hk => by omega) hs
  rw [if_neg c2] at hs ⊢
  by_cases c3 : mt t b i 24 = true
  · rw [if_pos c3] at hs ⊢; exact ceS_ok h hi hs
  rw [if_neg c3] at hs ⊢
  by_cases c4 : mt t b i 25 = true
  · rw [if_pos c4] at hs ⊢; exact rnS_ok h hi (by omega) hs
  rw [if_neg c4] at hs ⊢
  by_cases c5 : mt t b i 26 = true
  · rw [if_pos c5] at hs ⊢; exact shS_ok h hi hs
  rw [if_neg c5] at hs ⊢
  by_cases c6 : mt t b i 27 = true
  · rw [if_pos c6] at hs ⊢; exact rnS_ok h hi (by omega) hs
  rw [if_neg c6] at hs ⊢
  by_cases c7 : mt t b i 28 = true
  · rw [if_pos c7] at hs ⊢; exact rnS_ok h hi (by omega) hs
  rw [if_neg c7] at hs ⊢
  by_cases c8 : mt t b i 29 = true
  · rw [if_pos c8] at hs ⊢; exact rnS_ok h hi (by omega) hs
  rw [if_neg c8] at hs
  cases hs
theorem bnS_ok {t R : Nat → Nat} {E n i : Nat} (h : okW R) (hi : i ≤ E) (hs : (bnS t E R n i).1 = true) : okW (bnS t E R n i).2.1 ∧ (bnS t E R n i).2.2.1 ≤ E ∧ n < 14 := by
  have b := skB_b (t := t) hi
  have b2 := ltE_b (t := t) b.2
  unfold bnS at hs ⊢
  by_cases c : n < 14
  · rw [if_pos c] at hs ⊢
    have r := blS_ok h b2.2 hs
    exact ⟨r.1, r.2, c⟩
  · rw [if_neg c] at hs; cases hs
theorem lnS_b {t : Nat → Nat} {E n i : Nat} (hi : i ≤ E) (hs : (lnS t E n i).1 = true) : i + (lnS t E n i).2.2.1.length ≤ (lnS t E n i).2.2.2.1 ∧ (lnS t E n i).2.2.2.1 ≤ E ∧ n < 12 := by
  have b := skB_b (t := t) hi
  have b2 := ltE_b (t := t) b.2
  have b3 := nmE_b (t := t) b2.2
  have b3' := skB_b (t := t) b2.2
  have b4 := psE_b (t := t) (q := 5) b3.2
  have b5 := skB_b (t := t) b3.2
  unfold lnS at hs ⊢
  by_cases c : n < 12
  · rw [if_pos c] at hs ⊢
    unfold llS at hs ⊢
    by_cases c1 : lkR t (skB t E i) (ltE t E (skB t E i)) = 4294967295
    · rw [if_pos c1] at hs; cases hs
    · rw [if_neg c1] at hs ⊢
      by_cases c2 : nmV t E (ltE t E (skB t E i)) 40 = 4294967295
      · rw [if_pos c2] at hs; cases hs
      · rw [if_neg c2] at hs ⊢
        unfold llT at hs ⊢
        by_cases c3 : psB t E (nmE t E (ltE t E (skB t E i))) 5 = true
        · rw [if_pos c3] at hs ⊢
          have p := pG_b (t := t) (E := E) 2100 2 0 _ b4.2 hs
          refine ⟨?_, p.2, c⟩
          exact Nat.le_trans (Nat.add_le_add_right (show i ≤ psE t E (nmE t E (ltE t E (skB t E i))) 5 by omega) _) p.1
        · rw [if_neg c3]
          refine ⟨?_, b4.2, c⟩
          show i + 0 ≤ psE t E (nmE t E (ltE t E (skB t E i))) 5
          omega
  · rw [if_neg c] at hs; cases hs
