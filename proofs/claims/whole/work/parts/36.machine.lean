/-! the machine: register, mode, base, clock, whether it skips, cells -/
abbrev Mc : Type := Nat × Nat × Nat × Nat × Nat × (Nat → Nat)
def mDo (o kind n : Nat) (c : Mc) : Mc :=
  if kind = 0 then ((c.1 + n) % 4, c.2)
  else if kind = 1 then (c.2.2.2.2.2 ((n + c.2.2.1 + o) % 8), c.2)
  else if kind = 2 then (c.1, c.2.1, c.2.2.1, c.2.2.2.1, c.2.2.2.2.1, fun i => if i = (n + c.2.2.1 + o) % 8 then c.1 else c.2.2.2.2.2 i)
  else if kind = 3 then (c.1, 1, c.2.2)
  else if kind = 4 then (c.1, 0, c.2.2)
  else if kind = 5 then (c.1, c.2.1, 2 * c.1, c.2.2.2)
  else if kind = 6 then (c.2.2.1 / 2, c.2)
  else if kind = 7 then (c.2.1, c.2)
  else if kind = 8 then (c.2.2.2.1 % 4, c.2)
  else if kind = 9 then (c.1, c.2.1, c.2.2.1, c.2.2.2.1, (if c.2.2.2.2.1 = 1 ∨ c.1 = n % 4 then 1 else 0), c.2.2.2.2.2)
  else c
def mRun (o : Nat) (ki nu : Nat → Nat) : Nat → Nat → Mc → Mc
  | 0, _, c => c
  | i + 1, k, c => if ki k = 10 ∧ c.2.1 = 0 then c else mRun o ki nu i (k + 1) (mDo o (ki k) (nu k) c)
def mSk0 (c : Mc) : Mc := (c.1, c.2.1, c.2.2.1, c.2.2.2.1, 0, c.2.2.2.2.2)
def mOp (o : Nat) (R : Nat → Nat) (p : Nat) (c : Mc) : Mc := mRun o (fun k => R (30 + 9 * p + (3 + 2 * k))) (fun k => R (30 + 9 * p + (3 + 2 * k + 1))) (R (30 + 9 * p + 0)) 0 (mSk0 c)
def okM (c : Mc) : Prop := c.1 ≤ 3 ∧ c.2.1 ≤ 1 ∧ (c.2.2.1 ≤ 6 ∧ c.2.2.1 % 2 = 0) ∧ c.2.2.2.1 ≤ 7 ∧ c.2.2.2.2.1 ≤ 1 ∧ ∀ i, i < 8 → c.2.2.2.2.2 i ≤ 3
theorem okM_do {o kind n : Nat} {c : Mc} (h : okM c) (hn : n ≤ 7) : okM (mDo o kind n c) := by
  obtain ⟨h1, h2, h3, h4, h5, h6⟩ := h
  unfold mDo
  repeat' split
  · exact ⟨by show (c.1 + n) % 4 ≤ 3; omega, h2, h3, h4, h5, h6⟩
  · exact ⟨h6 _ (by omega), h2, h3, h4, h5, h6⟩
  · refine ⟨h1, h2, h3, h4, h5, fun i hi => ?_⟩
    show (if i = (n + c.2.2.1 + o) % 8 then c.1 else c.2.2.2.2.2 i) ≤ 3
    split
    · exact h1
    · exact h6 i hi
  · exact ⟨h1, Nat.le_refl 1, h3, h4, h5, h6⟩
  · exact ⟨h1, Nat.zero_le 1, h3, h4, h5, h6⟩
  · exact ⟨h1, h2, ⟨by show 2 * c.1 ≤ 6; omega, by show 2 * c.1 % 2 = 0; omega⟩, h4, h5, h6⟩
  · exact ⟨by show c.2.2.1 / 2 ≤ 3; omega, h2, h3, h4, h5, h6⟩
  · exact ⟨by show c.2.1 ≤ 3; omega, h2, h3, h4, h5, h6⟩
  · exact ⟨by show c.2.2.2.1 % 4 ≤ 3; omega, h2, h3, h4, h5, h6⟩
  · exact ⟨h1, h2, h3, h4, Nat.le_refl 1, h6⟩
  · exact ⟨h1, h2, h3, h4, Nat.zero_le 1, h6⟩
  · exact ⟨h1, h2, h3, h4, h5, h6⟩
theorem okM_run {o : Nat} {ki nu : Nat → Nat} : ∀ {i k : Nat} {c : Mc}, okM c → (∀ x, k ≤ x → x < k + i → nu x ≤ 7) → okM (mRun o ki nu i k c)
  | 0, _, _, h, _ => h
  | i + 1, k, c, h, hn => by
    unfold mRun
    split
    · exact h
    · exact okM_run (okM_do h (hn k (Nat.le_refl _) (by omega))) (fun x h1 h2 => hn x (by omega) (by omega))
theorem okM_0 {c : Mc} (h : okM c) : okM (mSk0 c) := ⟨h.1, h.2.1, h.2.2.1, h.2.2.2.1, Nat.zero_le 1, h.2.2.2.2.2⟩
theorem okM_op {o : Nat} {R : Nat → Nat} {p : Nat} {c : Mc} (hR : okW R) (hp : p < 8) (h : okM c) : okM (mOp o R p c) := by
  have hb := okW_o hR hp
  exact okM_run (okM_0 h) (fun x _ hx => (okW_m hR hp (by omega)).2)
/-- as it lies in the reference -/
def mRd (A : Nat → Nat → Nat) : Mc := (A 263 19, A 263 20, A 263 21, A 263 22, A 263 23, A 271)
def mRow (f : Nat → Nat) (c : Mc) : Nat → Nat := fun k => if k = 19 then c.1 else if k = 20 then c.2.1 else if k = 21 then c.2.2.1 else if k = 22 then c.2.2.2.1 else if k = 23 then c.2.2.2.2.1 else f k
def mWr (A : Nat → Nat → Nat) (c : Mc) : Nat → Nat → Nat := fun q => if q = 263 then mRow (A 263) c else if q = 271 then c.2.2.2.2.2 else A q
theorem mWr_o {A : Nat → Nat → Nat} {c : Mc} {q : Nat} (h : q ≠ 263) (h2 : q ≠ 271) : mWr A c q = A q := by simp [mWr, h, h2]
theorem mWr_f {A : Nat → Nat → Nat} {c : Mc} {k : Nat} (h : k < 19 ∨ 23 < k) : mWr A c 263 k = A 263 k := by
  have h1 : k ≠ 19 := by omega
  have h2 : k ≠ 20 := by omega
  have h3 : k ≠ 21 := by omega
  have h4 : k ≠ 22 := by omega
  have h5 : k ≠ 23 := by omega
  simp [mWr, mRow, h1, h2, h3, h4, h5]
theorem mRd_Wr (A : Nat → Nat → Nat) (c : Mc) : mRd (mWr A c) = c := rfl
theorem mRow_Row (f : Nat → Nat) (c e : Mc) : mRow (mRow f c) e = mRow f e := by
  funext k
  simp only [mRow]
  by_cases h1 : k = 19
  · simp [h1]
  by_cases h2 : k = 20
  · simp [h2]
  by_cases h3 : k = 21
  · simp [h3]
  by_cases h4 : k = 22
  · simp [h4]
  by_cases h5 : k = 23
  · simp [h5]
  simp [h1, h2, h3, h4, h5]
theorem mRow_id (f g : Nat → Nat) : mRow f (f 19, f 20, f 21, f 22, f 23, g) = f := by
  funext k
  simp only [mRow]
  by_cases h1 : k = 19
  · simp [h1]
  by_cases h2 : k = 20
  · simp [h2]
  by_cases h3 : k = 21
  · simp [h3]
  by_cases h4 : k = 22
  · simp [h4]
  by_cases h5 : k = 23
  · simp [h5]
  simp [h1, h2, h3, h4, h5]
theorem mWr_Wr (A : Nat → Nat → Nat) (c e : Mc) : mWr (mWr A c) e = mWr A e := by
  funext q
  simp only [mWr]
  by_cases h : q = 263
  · simp only [h, if_pos]
    exact mRow_Row _ _ _
  · by_cases h2 : q = 271
    · simp [h2]
    · simp [h, h2]
theorem mWr_id (A : Nat → Nat → Nat) : mWr A (mRd A) = A := by
  funext q
  simp only [mWr]
  by_cases h : q = 263
  · subst h
    funext k
    simp only [if_pos, mRow, mRd]
    repeat' split
    all_goals (first | rfl | simp_all)
  · by_cases h2 : q = 271
    · subst h2; simp [mRd]
    · simp [h, h2]
theorem mW_19 (A : Nat → Nat → Nat) (v : Nat) : gu A 263 19 v = mWr A (v, (mRd A).2) := by
  rw [gu_gw]; funext q; simp only [gw, mWr]
  by_cases h : q = 263
  · subst h; funext k; simp only [if_pos, mRow, mRd]; repeat' split
    all_goals (first | rfl | simp_all)
  · by_cases h2 : q = 271
    · subst h2; simp [mRd]
    · simp [h, h2]
theorem mW_20 (A : Nat → Nat → Nat) (v : Nat) : gu A 263 20 v = mWr A ((mRd A).1, v, (mRd A).2.2) := by
  rw [gu_gw]; funext q; simp only [gw, mWr]
  by_cases h : q = 263
  · subst h; funext k; simp only [if_pos, mRow, mRd]; repeat' split
    all_goals (first | rfl | simp_all)
  · by_cases h2 : q = 271
    · subst h2; simp [mRd]
    · simp [h, h2]
theorem mW_21 (A : Nat → Nat → Nat) (v : Nat) : gu A 263 21 v = mWr A ((mRd A).1, (mRd A).2.1, v, (mRd A).2.2.2) := by
  rw [gu_gw]; funext q; simp only [gw, mWr]
  by_cases h : q = 263
  · subst h; funext k; simp only [if_pos, mRow, mRd]; repeat' split
    all_goals (first | rfl | simp_all)
  · by_cases h2 : q = 271
    · subst h2; simp [mRd]
    · simp [h, h2]
theorem mW_22 (A : Nat → Nat → Nat) (v : Nat) : gu A 263 22 v = mWr A ((mRd A).1, (mRd A).2.1, (mRd A).2.2.1, v, (mRd A).2.2.2.2) := by
  rw [gu_gw]; funext q; simp only [gw, mWr]
  by_cases h : q = 263
  · subst h; funext k; simp only [if_pos, mRow, mRd]; repeat' split
    all_goals (first | rfl | simp_all)
  · by_cases h2 : q = 271
    · subst h2; simp [mRd]
    · simp [h, h2]
theorem mW_23 (A : Nat → Nat → Nat) (v : Nat) : gu A 263 23 v = mWr A ((mRd A).1, (mRd A).2.1, (mRd A).2.2.1, (mRd A).2.2.2.1, v, (mRd A).2.2.2.2.2) := by
  rw [gu_gw]; funext q; simp only [gw, mWr]
  by_cases h : q = 263
  · subst h; funext k; simp only [if_pos, mRow, mRd]; repeat' split
    all_goals (first | rfl | simp_all)
  · by_cases h2 : q = 271
    · subst h2; simp [mRd]
    · simp [h, h2]
theorem mW_c (A : Nat → Nat → Nat) (i v : Nat) : gu A 271 i v = mWr A ((mRd A).1, (mRd A).2.1, (mRd A).2.2.1, (mRd A).2.2.2.1, (mRd A).2.2.2.2.1, fun k => if k = i then v else A 271 k) := by
  rw [gu_gw]; funext q; simp only [gw, mWr]
  by_cases h : q = 263
  · subst h
    rw [if_neg (by decide), if_pos rfl]
    exact (mRow_id (A 263) _).symm
  · by_cases h2 : q = 271
    · subst h2; simp
    · simp [h, h2]
theorem mWr_264 (A : Nat → Nat → Nat) (c : Mc) : mWr A c 264 = A 264 := mWr_o (by decide) (by decide)
theorem mWr_20 (A : Nat → Nat → Nat) (c : Mc) : mWr A c 263 20 = c.2.1 := rfl
