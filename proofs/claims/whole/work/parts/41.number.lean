/-! the number of all that an op is made of; what hangs on it -/
def nmN (ki nu : Nat → Nat) : Nat → Nat → Nat → Nat
  | 0, _, n => n
  | i + 1, k, n => nmN ki nu i (k + 1) ((11 * n + ki k) * 8 + nu k)
def numN (R : Nat → Nat) (p : Nat) : Nat := nmN (fun k => R (30 + 9 * p + (3 + 2 * k))) (fun k => R (30 + 9 * p + (3 + 2 * k + 1))) (R (30 + 9 * p + 0)) 0 (2 * R (30 + 9 * p + 0) + R (30 + 9 * p + 1) + 1)
def numA (R : Nat → Nat) (p : Nat) : Int64 := lN (numN R p)
/-- two rows have the same op there -/
def opEq (R S : Nat → Nat) (p : Nat) : Prop := R (30 + 9 * p + 0) = S (30 + 9 * p + 0) ∧ R (30 + 9 * p + 1) = S (30 + 9 * p + 1) ∧ ∀ k, k < R (30 + 9 * p + 0) → R (30 + 9 * p + (3 + 2 * k)) = S (30 + 9 * p + (3 + 2 * k)) ∧ R (30 + 9 * p + (3 + 2 * k + 1)) = S (30 + 9 * p + (3 + 2 * k + 1))
theorem numN_lt {R : Nat → Nat} (h : okW R) {p : Nat} (hp : p < 8) : numN R p < 10000000 := by
  have h0 := okW_o h hp
  have h1 := okW_m h hp (k := 0) (by omega)
  have h2 := okW_m h hp (k := 1) (by omega)
  have h3 := okW_m h hp (k := 2) (by omega)
  unfold numN
  rcases (by omega : R (30 + 9 * p + 0) = 0 ∨ R (30 + 9 * p + 0) = 1 ∨ R (30 + 9 * p + 0) = 2 ∨ R (30 + 9 * p + 0) = 3) with e | e | e | e
  all_goals (rw [e]; simp only [nmN, Nat.reduceAdd]; omega)
theorem numN_pos {R : Nat → Nat} (h : okW R) {p : Nat} (hp : p < 8) : 0 < numN R p := by
  have h0 := okW_o h hp
  unfold numN
  rcases (by omega : R (30 + 9 * p + 0) = 0 ∨ R (30 + 9 * p + 0) = 1 ∨ R (30 + 9 * p + 0) = 2 ∨ R (30 + 9 * p + 0) = 3) with e | e | e | e
  all_goals (rw [e]; simp only [nmN, Nat.reduceAdd]; omega)
theorem numN_inj {R S : Nat → Nat} (h : okW R) (h' : okW S) {p : Nat} (hp : p < 8) (l : 1 ≤ R (30 + 9 * p + 0)) (l' : 1 ≤ S (30 + 9 * p + 0)) (e : numN R p = numN S p) : opEq R S p := by
  have h0 := okW_o h hp
  have h1 := okW_m h hp (k := 0) (by omega)
  have h2 := okW_m h hp (k := 1) (by omega)
  have h3 := okW_m h hp (k := 2) (by omega)
  have g0 := okW_o h' hp
  have g1 := okW_m h' hp (k := 0) (by omega)
  have g2 := okW_m h' hp (k := 1) (by omega)
  have g3 := okW_m h' hp (k := 2) (by omega)
  unfold numN at e
  simp only [Nat.mul_zero, Nat.mul_one, Nat.reduceMul, Nat.reduceAdd] at h1 h2 h3 g1 g2 g3
  have key : R (30 + 9 * p + 0) = S (30 + 9 * p + 0) ∧ R (30 + 9 * p + 1) = S (30 + 9 * p + 1) ∧ (0 < R (30 + 9 * p + 0) → R (30 + 9 * p + 3) = S (30 + 9 * p + 3) ∧ R (30 + 9 * p + 4) = S (30 + 9 * p + 4)) ∧ (1 < R (30 + 9 * p + 0) → R (30 + 9 * p + 5) = S (30 + 9 * p + 5) ∧ R (30 + 9 * p + 6) = S (30 + 9 * p + 6)) ∧ (2 < R (30 + 9 * p + 0) → R (30 + 9 * p + 7) = S (30 + 9 * p + 7) ∧ R (30 + 9 * p + 8) = S (30 + 9 * p + 8)) := by
    rcases (by omega : R (30 + 9 * p + 0) = 1 ∨ R (30 + 9 * p + 0) = 2 ∨ R (30 + 9 * p + 0) = 3) with a | a | a <;>
    rcases (by omega : S (30 + 9 * p + 0) = 1 ∨ S (30 + 9 * p + 0) = 2 ∨ S (30 + 9 * p + 0) = 3) with b | b | b <;>
    (rw [a, b] at e; simp only [nmN, Nat.mul_zero, Nat.mul_one, Nat.reduceMul, Nat.reduceAdd] at e; rw [a, b]; omega)
  refine ⟨key.1, key.2.1, fun k hk => ?_⟩
  rcases (by omega : k = 0 ∨ k = 1 ∨ k = 2) with rfl | rfl | rfl
  · exact key.2.2.1 hk
  · exact key.2.2.2.1 hk
  · exact key.2.2.2.2 hk
theorem numA_inj {R S : Nat → Nat} (h : okW R) (h' : okW S) {p : Nat} (hp : p < 8) (l : 1 ≤ R (30 + 9 * p + 0)) (l' : 1 ≤ S (30 + 9 * p + 0)) (e : numA R p = numA S p) : opEq R S p := by
  have a := numN_lt h hp
  have b := numN_lt h' hp
  exact numN_inj h h' hp l l' ((pk_lEQ (by omega) (by omega)).mp e)
theorem numA_ne {R : Nat → Nat} (h : okW R) {p : Nat} (hp : p < 8) : ¬ (0 : Int64) = numA R p := by
  intro e
  have a := numN_lt h hp
  have b := numN_pos h hp
  have := (pk_lEQ (a := 0) (b := numN R p) (by omega) (by omega)).mp e
  omega
theorem mRun_congr {o : Nat} {ki nu ki' nu' : Nat → Nat} : ∀ {i k : Nat} {c : Mc}, (∀ x, k ≤ x → x < k + i → ki x = ki' x ∧ nu x = nu' x) → mRun o ki nu i k c = mRun o ki' nu' i k c
  | 0, _, _, _ => rfl
  | i + 1, k, c, h => by
    unfold mRun
    have h0 := h k (Nat.le_refl _) (by omega)
    rw [h0.1, h0.2, mRun_congr (fun x h1 h2 => h x (by omega) (by omega))]
theorem mOp_congr {o : Nat} {R S : Nat → Nat} {p : Nat} {c : Mc} (h : opEq R S p) : mOp o R p c = mOp o S p c := by
  unfold mOp
  rw [← h.1]
  exact mRun_congr (fun x _ hx => h.2.2 x (by omega))
theorem trB_congr {R S : Nat → Nat} {p : Nat} (h : opEq R S p) (w s : Nat) : trB R p w s = trB S p w s := by
  have t : ∀ m, trp R p m = trp S p m := fun m => by unfold trp; rw [h.2.1]
  have c : ∀ x, mOp 0 R p x = mOp 0 S p x := fun x => mOp_congr h
  unfold trB tr0 tr1 tr2 tr3 tr3c
  simp only [t, c]
theorem lstN_congr {f g : Nat → Bool} : ∀ {i k : Nat}, (∀ x, k ≤ x → x < k + i → f x = g x) → lstN f i k = lstN g i k
  | 0, _, _ => rfl
  | i + 1, k, h => by
    unfold lstN
    rw [h k (Nat.le_refl _) (by omega), lstN_congr (fun x h1 h2 => h x (by omega) (by omega))]
theorem wit_congr {R S : Nat → Nat} {p : Nat} (h : opEq R S p) (w : Nat) : wit R p w = wit S p w := by
  unfold wit
  rw [lstN_congr (fun x _ _ => trB_congr h w x)]
def tbN (R : Nat → Nat) (p : Nat) : Nat → Nat
  | 0 => 0
  | k + 1 => tbN R p k ||| (if wit R p k = 4294967295 then 0 else 2 ^ k)
theorem tbN_congr {R S : Nat → Nat} {p : Nat} (h : opEq R S p) : ∀ k, tbN R p k = tbN S p k
  | 0 => rfl
  | k + 1 => by
    unfold tbN
    rw [tbN_congr h k, wit_congr h k]
/-- what is known of the ops is right -/
def TrI (A : Nat → Nat → Nat) (j : Nat → Nat → Int64) : Prop := ∀ p, p < 8 → ∀ R, okW R → 1 ≤ R (30 + 9 * p + 0) → j 274 p = numA R p → A 273 p = tbN R p 4
