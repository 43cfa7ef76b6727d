/-! the bench as one row, as the reference has it: its bounds -/
def okOp (o : Nat → Nat) : Prop := o 0 ≤ 3 ∧ o 1 ≤ 1 ∧ o 2 ≤ 1 ∧ ∀ k, k < 3 → o (3 + 2 * k) ≤ 10 ∧ o (3 + 2 * k + 1) ≤ 7
def okGu (g : Nat → Nat) : Prop := g 0 ≤ 12 ∧ g 1 ≤ 3 ∧ g 2 ≤ 1 ∧ (g 3 ≤ 6 ∧ g 3 % 2 = 0) ∧ g 4 ≤ 7 ∧ ∀ k, k < 8 → g (5 + k) ≤ 3
def okW (R : Nat → Nat) : Prop :=
  (R 0 ≤ 8 ∧ R 1 ≤ 12 ∧ R 2 ≤ 1 ∧ R 3 ≤ 10 ∧ R 4 ≤ 9 ∧ R 5 ≤ 6 ∧ R 5 % 2 = 0 ∧ R 6 ≤ 7 ∧ R 7 ≤ 100 ∧ R 8 ≤ 9999 ∧ R 9 ≤ 9999 ∧ R 10 ≤ 60 ∧ R 11 < 4294967296) ∧
  (∀ k, k < 10 → R (12 + k) < 8) ∧ (∀ k, k < R 3 → R (12 + k) < R 0) ∧ (∀ k, k < 8 → R (22 + k) ≤ 3) ∧
  (∀ p, p < 8 → okOp (fun i => R (30 + 9 * p + i))) ∧ (∀ p, p < R 0 → 1 ≤ R (30 + 9 * p + 0)) ∧
  (∀ g, g < 2 → okGu (fun i => R (102 + 13 * g + i))) ∧ ∀ k, k < 240 → R (128 + k) < 4294967296
theorem okW_n {R : Nat → Nat} (h : okW R) : R 0 ≤ 8 ∧ R 1 ≤ 12 ∧ R 2 ≤ 1 ∧ R 3 ≤ 10 ∧ R 4 ≤ 9 ∧ R 5 ≤ 6 ∧ R 5 % 2 = 0 ∧ R 6 ≤ 7 ∧ R 7 ≤ 100 ∧ R 8 ≤ 9999 ∧ R 9 ≤ 9999 ∧ R 10 ≤ 60 ∧ R 11 < 4294967296 := h.1
theorem okW_p {R : Nat → Nat} (h : okW R) {k : Nat} (hk : k < 10) : R (12 + k) < 8 := h.2.1 k hk
theorem okW_pl {R : Nat → Nat} (h : okW R) {k : Nat} (hk : k < R 3) : R (12 + k) < R 0 := h.2.2.1 k hk
theorem okW_c {R : Nat → Nat} (h : okW R) {k : Nat} (hk : k < 8) : R (22 + k) ≤ 3 := h.2.2.2.1 k hk
theorem okW_o {R : Nat → Nat} (h : okW R) {p : Nat} (hp : p < 8) : R (30 + 9 * p + 0) ≤ 3 ∧ R (30 + 9 * p + 1) ≤ 1 ∧ R (30 + 9 * p + 2) ≤ 1 := ⟨(h.2.2.2.2.1 p hp).1, (h.2.2.2.2.1 p hp).2.1, (h.2.2.2.2.1 p hp).2.2.1⟩
theorem okW_m {R : Nat → Nat} (h : okW R) {p k : Nat} (hp : p < 8) (hk : k < 3) : R (30 + 9 * p + (3 + 2 * k)) ≤ 10 ∧ R (30 + 9 * p + (3 + 2 * k + 1)) ≤ 7 := (h.2.2.2.2.1 p hp).2.2.2 k hk
theorem okW_1 {R : Nat → Nat} (h : okW R) {p : Nat} (hp : p < R 0) : 1 ≤ R (30 + 9 * p + 0) := h.2.2.2.2.2.1 p hp
theorem okW_g {R : Nat → Nat} (h : okW R) {g : Nat} (hg : g < 2) : R (102 + 13 * g + 0) ≤ 12 ∧ R (102 + 13 * g + 1) ≤ 3 ∧ R (102 + 13 * g + 2) ≤ 1 ∧ (R (102 + 13 * g + 3) ≤ 6 ∧ R (102 + 13 * g + 3) % 2 = 0) ∧ R (102 + 13 * g + 4) ≤ 7 := ⟨(h.2.2.2.2.2.2.1 g hg).1, (h.2.2.2.2.2.2.1 g hg).2.1, (h.2.2.2.2.2.2.1 g hg).2.2.1, (h.2.2.2.2.2.2.1 g hg).2.2.2.1, (h.2.2.2.2.2.2.1 g hg).2.2.2.2.1⟩
theorem okW_gc {R : Nat → Nat} (h : okW R) {g k : Nat} (hg : g < 2) (hk : k < 8) : R (102 + 13 * g + (5 + k)) ≤ 3 := (h.2.2.2.2.2.2.1 g hg).2.2.2.2.2 k hk
theorem okW_l {R : Nat → Nat} (h : okW R) {k : Nat} (hk : k < 240) : R (128 + k) < 4294967296 := h.2.2.2.2.2.2.2 k hk
/-- how many k below n are such -/
def cntN (f : Nat → Bool) : Nat → Nat
  | 0 => 0
  | n + 1 => cntN f n + (f n).toNat
theorem cntN_le (f : Nat → Bool) : ∀ n, cntN f n ≤ n
  | 0 => Nat.le_refl _
  | n + 1 => by
    have := cntN_le f n
    unfold cntN
    have : (f n).toNat ≤ 1 := Bool.toNat_le _
    omega
theorem cntN_congr {f g : Nat → Bool} : ∀ {n : Nat}, (∀ k, k < n → f k = g k) → cntN f n = cntN g n
  | 0, _ => rfl
  | n + 1, h => by
    unfold cntN
    rw [cntN_congr (fun k hk => h k (by omega)), h n (by omega)]
/-- from the end of a loop down to its beginning -/
theorem up_ind {P : Nat → Prop} (N : Nat) (h0 : P N) (hs : ∀ k, k < N → P (k + 1) → P k) : ∀ k, k ≤ N → P k := by
  have H : ∀ i, i ≤ N → P (N - i) := by
    intro i
    induction i with
    | zero => intro _; exact h0
    | succ i ih =>
      intro hi
      have := ih (by omega)
      refine hs _ (by omega) ?_
      rw [show N - (i + 1) + 1 = N - i by omega]
      exact this
  intro k hk
  have := H (N - k) (by omega)
  rwa [show N - (N - k) = k by omega] at this
/-- a row up to k taken over -/
def cpN (f g : Nat → Nat) (k : Nat) : Nat → Nat := fun i => if i < k then f i else g i
theorem cpN_0 (f g : Nat → Nat) : cpN f g 0 = g := by funext i; simp [cpN]
theorem gw_self {α : Type} (A : Nat → α) (q : Nat) : gw A q (A q) = A := by funext a; unfold gw; by_cases h : a = q <;> simp [h]
theorem gw_at {α : Type} (A : Nat → α) (q : Nat) (v : α) : gw A q v q = v := by simp [gw]
theorem gw_gw {α : Type} (A : Nat → α) (q : Nat) (v u : α) : gw (gw A q v) q u = gw A q u := by funext a; unfold gw; by_cases h : a = q <;> simp [h]
theorem gu_gw (A : Nat → Nat → Nat) (q k v : Nat) : gu A q k v = gw A q (fun b => if b = k then v else A q b) := by funext a; unfold gu gw; rfl
theorem cpN_s (A : Nat → Nat → Nat) (q : Nat) (f g : Nat → Nat) (k : Nat) : gu (gw A q (cpN f g k)) q k (f k) = gw A q (cpN f g (k + 1)) := by
  rw [gu_gw, gw_gw]
  congr 1
  funext b
  simp only [gw_at, cpN]
  by_cases h : b = k
  · subst h; simp
  · by_cases h2 : b < k
    · rw [if_neg h, if_pos h2, if_pos (by omega)]
    · rw [if_neg h, if_neg h2, if_neg (by omega)]
