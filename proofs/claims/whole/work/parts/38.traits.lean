/-! what the traits are -/
def stP (s b k : Nat) : Nat := (s / 32 % 16 % 4 * ((k + b) % 8) + s / 32 % 16 / 4) % 4
def stM (s mo ba cl b : Nat) : Mc := (s % 4, mo, ba, cl, 0, stP s b)
def eqM (c e : Mc) : Prop := c.1 = e.1 ∧ c.2.1 = e.2.1 ∧ c.2.2.1 = e.2.2.1 ∧ c.2.2.2.1 = e.2.2.2.1 ∧ c.2.2.2.2.1 = e.2.2.2.2.1 ∧ ∀ k, k < 8 → c.2.2.2.2.2 k = e.2.2.2.2.2 k
theorem mDo_hi {o kind n : Nat} (c : Mc) (h : 9 < kind) : mDo o kind n c = c := by
  unfold mDo
  rw [if_neg (by omega), if_neg (by omega), if_neg (by omega), if_neg (by omega), if_neg (by omega), if_neg (by omega), if_neg (by omega), if_neg (by omega), if_neg (by omega), if_neg (by omega)]
theorem ten_cases {P : Nat → Prop} (h0 : P 0) (h1 : P 1) (h2 : P 2) (h3 : P 3) (h4 : P 4) (h5 : P 5) (h6 : P 6) (h7 : P 7) (h8 : P 8) (h9 : P 9) (hh : ∀ k, 9 < k → P k) (k : Nat) : P k := by
  rcases (by omega : k = 0 ∨ k = 1 ∨ k = 2 ∨ k = 3 ∨ k = 4 ∨ k = 5 ∨ k = 6 ∨ k = 7 ∨ k = 8 ∨ k = 9 ∨ 9 < k) with e | e | e | e | e | e | e | e | e | e | e
  all_goals (first | (subst e; assumption) | exact hh k e)
theorem eqM_do {o kind n : Nat} {c e : Mc} (h : eqM c e) : eqM (mDo o kind n c) (mDo o kind n e) := by
  obtain ⟨h1, h2, h3, h4, h5, h6⟩ := h
  refine ten_cases (P := fun kind => eqM (mDo o kind n c) (mDo o kind n e)) ?_ ?_ ?_ ?_ ?_ ?_ ?_ ?_ ?_ ?_ ?_ kind
  · exact ⟨by show (c.1 + n) % 4 = (e.1 + n) % 4; rw [h1], h2, h3, h4, h5, h6⟩
  · exact ⟨by show c.2.2.2.2.2 ((n + c.2.2.1 + o) % 8) = e.2.2.2.2.2 ((n + e.2.2.1 + o) % 8); rw [h3]; exact h6 _ (by omega), h2, h3, h4, h5, h6⟩
  · refine ⟨h1, h2, h3, h4, h5, fun k hk => ?_⟩
    show (if k = (n + c.2.2.1 + o) % 8 then c.1 else c.2.2.2.2.2 k) = (if k = (n + e.2.2.1 + o) % 8 then e.1 else e.2.2.2.2.2 k)
    rw [h3, h1, h6 k hk]
  · exact ⟨h1, rfl, h3, h4, h5, h6⟩
  · exact ⟨h1, rfl, h3, h4, h5, h6⟩
  · exact ⟨h1, h2, by show 2 * c.1 = 2 * e.1; rw [h1], h4, h5, h6⟩
  · exact ⟨by show c.2.2.1 / 2 = e.2.2.1 / 2; rw [h3], h2, h3, h4, h5, h6⟩
  · exact ⟨h2, h2, h3, h4, h5, h6⟩
  · exact ⟨by show c.2.2.2.1 % 4 = e.2.2.2.1 % 4; rw [h4], h2, h3, h4, h5, h6⟩
  · exact ⟨h1, h2, h3, h4, by show (if c.2.2.2.2.1 = 1 ∨ c.1 = n % 4 then 1 else 0) = (if e.2.2.2.2.1 = 1 ∨ e.1 = n % 4 then 1 else 0); rw [h5, h1], h6⟩
  · intro k hk
    rw [mDo_hi c hk, mDo_hi e hk]
    exact ⟨h1, h2, h3, h4, h5, h6⟩
theorem eqM_run {o : Nat} {ki nu : Nat → Nat} : ∀ {i k : Nat} {c e : Mc}, eqM c e → eqM (mRun o ki nu i k c) (mRun o ki nu i k e)
  | 0, _, _, _, h => h
  | i + 1, k, c, e, h => by
    unfold mRun
    rw [h.2.1]
    split
    · exact h
    · exact eqM_run (eqM_do h)
theorem eqM_op {o : Nat} {R : Nat → Nat} {p : Nat} {c e : Mc} (h : eqM (mSk0 c) (mSk0 e)) : eqM (mOp o R p c) (mOp o R p e) := eqM_run h
theorem eqM_symm {c e : Mc} (h : eqM c e) : eqM e c := ⟨h.1.symm, h.2.1.symm, h.2.2.1.symm, h.2.2.2.1.symm, h.2.2.2.2.1.symm, fun k hk => (h.2.2.2.2.2 k hk).symm⟩
theorem eqM_trans {c e f : Mc} (h : eqM c e) (h2 : eqM e f) : eqM c f := ⟨h.1.trans h2.1, h.2.1.trans h2.2.1, h.2.2.1.trans h2.2.2.1, h.2.2.2.1.trans h2.2.2.2.1, h.2.2.2.2.1.trans h2.2.2.2.2.1, fun k hk => (h.2.2.2.2.2 k hk).trans (h2.2.2.2.2.2 k hk)⟩
def allN (f : Nat → Bool) : Nat → Bool
  | 0 => true
  | n + 1 => allN f n && f n
theorem allN_congr {f g : Nat → Bool} : ∀ {n : Nat}, (∀ k, k < n → f k = g k) → allN f n = allN g n
  | 0, _ => rfl
  | n + 1, h => by
    unfold allN
    rw [allN_congr (fun k hk => h k (by omega)), h n (by omega)]
theorem allN_iff {f : Nat → Bool} : ∀ {n : Nat}, allN f n = true ↔ ∀ k, k < n → f k = true
  | 0 => ⟨fun _ k hk => by omega, fun _ => rfl⟩
  | n + 1 => by
    unfold allN
    rw [Bool.and_eq_true, allN_iff]
    constructor
    · intro h k hk
      by_cases e : k = n
      · subst e; exact h.2
      · exact h.1 k (by omega)
    · intro h
      exact ⟨fun k hk => h k (by omega), h n (by omega)⟩
/-- the second one's answer c is another thing than the first one's e -/
def unl (b : Nat) (c e : Mc) : Bool := !(decide (c.1 = e.1) && decide (c.2.2.2.2.1 = e.2.2.2.2.1) && allN (fun k => decide (e.2.2.2.2.2 ((k + b) % 8) = c.2.2.2.2.2 k)) 8)
theorem unl_eq {b : Nat} {c e c' e' : Mc} (h : eqM c c') (h2 : eqM e e') : unl b c e = unl b c' e' := by
  unfold unl
  rw [h.1, h2.1, h.2.2.2.2.1, h2.2.2.2.2.1]
  congr 2
  apply allN_congr
  intro k hk
  rw [h.2.2.2.2.2 k hk, h2.2.2.2.2.2 _ (by omega)]
def trp (R : Nat → Nat) (p mo : Nat) : Bool := decide (R (30 + 9 * p + 1) = 1) && decide (mo = 0)
def tr0 (R : Nat → Nat) (p s : Nat) : Bool := !trp R p (s / 4 % 2) && (!decide ((mOp 0 R p (stM s (s / 4 % 2) (2 * (s / 8 % 4)) 0 0)).2.1 = s / 4 % 2) || !decide ((mOp 0 R p (stM s (s / 4 % 2) (2 * (s / 8 % 4)) 0 0)).2.2.1 = 2 * (s / 8 % 4)))
def tr1 (R : Nat → Nat) (p s : Nat) : Bool := !decide (s / 4 % 2 = 1) && (!trp R p 0 && unl 0 (mOp 0 R p (stM s 1 (2 * (s / 8 % 4)) 0 0)) (mOp 0 R p (stM s (s / 4 % 2) (2 * (s / 8 % 4)) 0 0)))
def tr2 (R : Nat → Nat) (p s : Nat) : Bool := !trp R p (s / 4 % 2) && unl (2 * (s / 8 % 4)) (mOp 0 R p (stM s (s / 4 % 2) 0 0 (2 * (s / 8 % 4)))) (mOp 0 R p (stM s (s / 4 % 2) (2 * (s / 8 % 4)) 0 0))
def tr3c (R : Nat → Nat) (p s c : Nat) : Bool := unl 0 (mOp 0 R p (stM s (s / 4 % 2) (2 * (s / 8 % 4)) c 0)) (mOp 0 R p (stM s (s / 4 % 2) (2 * (s / 8 % 4)) 0 0))
def tr3 (R : Nat → Nat) (p s : Nat) : Bool := !trp R p (s / 4 % 2) && !allN (fun c => !tr3c R p s (c + 1)) 7
def trB (R : Nat → Nat) (p w s : Nat) : Bool := if w = 0 then tr0 R p s else if w = 1 then tr1 R p s else if w = 2 then tr2 R p s else tr3 R p s
/-- the least k from k0 on, of i, that is such; else behind them all -/
def lstN (f : Nat → Bool) : Nat → Nat → Nat
  | 0, k => k
  | i + 1, k => if f k = true then k else lstN f i (k + 1)
def wit (R : Nat → Nat) (p w : Nat) : Nat := if lstN (trB R p w) 512 0 = 512 then 4294967295 else lstN (trB R p w) 512 0
/-- what stays where only the machine is used -/
def frS (A B : Nat → Nat → Nat) : Prop := (∀ q, q ≠ 263 → q ≠ 271 → q ≠ 272 → B q = A q) ∧ ∀ k, k < 19 ∨ 25 < k → B 263 k = A 263 k
theorem frS_rf (A : Nat → Nat → Nat) : frS A A := ⟨fun _ _ _ _ => rfl, fun _ _ => rfl⟩
theorem frS_tr {A B C : Nat → Nat → Nat} (h : frS A B) (h2 : frS B C) : frS A C := ⟨fun q a b c => (h2.1 q a b c).trans (h.1 q a b c), fun k hk => (h2.2 k hk).trans (h.2 k hk)⟩
theorem frS_mWr (A : Nat → Nat → Nat) (c : Mc) : frS A (mWr A c) := ⟨fun _ a b _ => mWr_o a b, fun _ hk => mWr_f (by omega)⟩
theorem mW_row (A : Nat → Nat → Nat) (f : Nat → Nat) : gw A 271 f = mWr A ((mRd A).1, (mRd A).2.1, (mRd A).2.2.1, (mRd A).2.2.2.1, (mRd A).2.2.2.2.1, f) := by
  funext q; simp only [gw, mWr]
  by_cases h : q = 263
  · subst h
    rw [if_neg (by decide), if_pos rfl]
    exact (mRow_id (A 263) _).symm
  · by_cases h2 : q = 271
    · subst h2; simp
    · simp [h, h2]
/-- the first one's answer, kept -/
def kRd (A : Nat → Nat → Nat) : Mc := (A 263 24, 0, 0, 0, A 263 25, A 272)
theorem okM_st {s mo ba cl b : Nat} (h : mo ≤ 1) (h2 : ba ≤ 6) (h3 : ba % 2 = 0) (h4 : cl ≤ 7) : okM (stM s mo ba cl b) := ⟨by show s % 4 ≤ 3; omega, h, ⟨h2, h3⟩, h4, Nat.zero_le 1, fun k _ => by show (_ % 4) ≤ 3; omega⟩
