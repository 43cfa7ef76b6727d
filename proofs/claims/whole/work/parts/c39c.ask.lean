theorem lk_s {R t : Nat → Nat} {E k : Nat} (hk : k < 8) : lkF R t E (k + 1) = (if wrN R (tbF R) t E k < lkF R t E k then wrN R (tbF R) t E k else lkF R t E k) ∧ lkB R t E (k + 1) = (if wrN R (tbF R) t E k < lkF R t E k then k else lkB R t E k) := by
  have s0 : bitN (fun p => decide (wrN R (tbF R) t E p ≤ 0)) (k + 1) = bitN (fun p => decide (wrN R (tbF R) t E p ≤ 0)) k ||| (if decide (wrN R (tbF R) t E k ≤ 0) = true then 2 ^ k else 0) := rfl
  have s1 : bitN (fun p => decide (wrN R (tbF R) t E p ≤ 1)) (k + 1) = bitN (fun p => decide (wrN R (tbF R) t E p ≤ 1)) k ||| (if decide (wrN R (tbF R) t E k ≤ 1) = true then 2 ^ k else 0) := rfl
  have l0 := bit_lt (fun p => decide (wrN R (tbF R) t E p ≤ 0)) k
  have l1 := bit_lt (fun p => decide (wrN R (tbF R) t E p ≤ 1)) k
  unfold lkF lkB
  rw [s0, s1]
  obtain ⟨x, hx⟩ : ∃ x, x = bitN (fun p => decide (wrN R (tbF R) t E p ≤ 0)) k := ⟨_, rfl⟩
  obtain ⟨y, hy⟩ : ∃ y, y = bitN (fun p => decide (wrN R (tbF R) t E p ≤ 1)) k := ⟨_, rfl⟩
  obtain ⟨v, hv⟩ : ∃ v, v = wrN R (tbF R) t E k := ⟨_, rfl⟩
  rw [← hx, ← hy, ← hv]
  rw [← hx] at l0
  rw [← hy] at l1
  have o1 := @or_0 x k
  have o2 := @or_0 y k
  have z1 := tz_s hk l0
  have z2 := tz_s hk l1
  rcases (by omega : v = 0 ∨ v = 1 ∨ 1 < v) with c | c | c
  · rw [if_pos (show decide (v ≤ 0) = true from decide_eq_true (by omega)), if_pos (show decide (v ≤ 1) = true from decide_eq_true (by omega)), if_pos o1, if_pos o1]
    by_cases cx : x = 0
    · rw [if_neg (show ¬ ¬ x = 0 from nni cx), if_neg (show ¬ ¬ x = 0 from nni cx), z1, if_pos cx]
      have : v < (if ¬ y = 0 then 1 else 2) := by split <;> omega
      rw [if_pos this, if_pos this]
      exact ⟨c.symm, rfl⟩
    · rw [if_pos cx, if_pos cx, z1, if_neg cx, if_neg (by omega), if_neg (by omega)]
      exact ⟨rfl, rfl⟩
  · rw [if_neg (show ¬ decide (v ≤ 0) = true from fun z => absurd (of_decide_eq_true z) (by omega)), if_pos (show decide (v ≤ 1) = true from decide_eq_true (by omega)), Nat.or_zero]
    by_cases cx : x = 0
    · rw [if_neg (show ¬ ¬ x = 0 from nni cx), if_neg (show ¬ ¬ x = 0 from nni cx), if_neg (show ¬ ¬ x = 0 from nni cx), if_neg (show ¬ ¬ x = 0 from nni cx), if_pos o2, if_pos o2, z2]
      by_cases cy : y = 0
      · rw [if_pos cy, if_neg (show ¬ ¬ y = 0 from nni cy), if_neg (show ¬ ¬ y = 0 from nni cy), if_pos (by omega), if_pos (by omega)]
        exact ⟨c.symm, rfl⟩
      · rw [if_neg cy, if_pos cy, if_pos cy, if_neg (by omega), if_neg (by omega)]
        exact ⟨rfl, rfl⟩
    · rw [if_pos cx, if_pos cx, if_pos cx, if_pos cx, if_neg (by omega), if_neg (by omega)]
      exact ⟨rfl, rfl⟩
  · rw [if_neg (show ¬ decide (v ≤ 0) = true from fun z => absurd (of_decide_eq_true z) (by omega)), if_neg (show ¬ decide (v ≤ 1) = true from fun z => absurd (of_decide_eq_true z) (by omega)), Nat.or_zero, Nat.or_zero]
    have : ¬ v < (if ¬ x = 0 then 0 else if ¬ y = 0 then 1 else 2) := by split <;> (try split) <;> omega
    rw [if_neg this, if_neg this]
    exact ⟨rfl, rfl⟩
theorem lkB_e {R t : Nat → Nat} {E : Nat} : lkB R t E (R 0) = if lkyN R (tbF R) t E = 0 then 4294967295 else tzN (lkyN R (tbF R) t E) := by
  show (if ¬ fitN R (tbF R) t E 0 = 0 then tzN (fitN R (tbF R) t E 0) else if ¬ fitN R (tbF R) t E 1 = 0 then tzN (fitN R (tbF R) t E 1) else 4294967295) = _
  unfold lkyN
  by_cases c : ¬ fitN R (tbF R) t E 0 = 0
  · rw [if_pos c, if_pos c, if_neg c]
  · rw [if_neg c, if_neg c]
    by_cases e : fitN R (tbF R) t E 1 = 0
    · rw [if_neg (nni e), if_pos e]
    · rw [if_pos e, if_neg e]
theorem lkF_le {R t : Nat → Nat} {E k : Nat} : lkF R t E k ≤ 2 := by unfold lkF; (repeat' split) <;> omega
