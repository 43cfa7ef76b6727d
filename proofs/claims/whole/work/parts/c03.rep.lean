/-! the class: ops as the reference has them; kinds that cannot tell -/
def rO (A : Nat → Nat → Nat) (o : Nat) (R : Nat → Nat) : Prop := A o 0 = R 0 ∧ (∀ p, p < R 0 → A (o + 1) p = R (30 + 9 * p + 0) ∧ A (o + 4) p = R (30 + 9 * p + 1) ∧ A (o + 5) p = R (30 + 9 * p + 2) ∧ ∀ k, k < R (30 + 9 * p + 0) → A (o + 2) (p * 3 + k) = R (30 + 9 * p + (3 + 2 * k)) ∧ A (o + 3) (p * 3 + k) = R (30 + 9 * p + (3 + 2 * k + 1))) ∧ ∀ z, z < 24 → A (o + 2) z ≤ 10 ∧ A (o + 3) z ≤ 7
theorem rO_n {A : Nat → Nat → Nat} {o : Nat} {R : Nat → Nat} (h : rO A o R) (w : okW R) : A o 0 ≤ 8 := by rw [h.1]; exact (okW_n w).1
theorem rO_s {A : Nat → Nat → Nat} {o : Nat} {R : Nat → Nat} (h : rO A o R) (w : okW R) : ∀ z, z < A o 0 → A (o + 1) z ≤ 3 := fun z hz => by
  have n := (okW_n w).1
  rw [h.1] at hz
  rw [(h.2.1 z hz).1]; exact (okW_o w (by omega)).1
theorem rO_7 {A : Nat → Nat → Nat} {o : Nat} {R : Nat → Nat} (h : rO A o R) (w : okW R) : ∀ z i, z < A o 0 → i < 3 → A (o + 2) (z * 3 + i) < 4294967296 ∧ A (o + 3) (z * 3 + i) ≤ 7 := fun z i hz hi => by
  have n := rO_n h w
  have := h.2.2 (z * 3 + i) (by omega)
  exact ⟨by omega, this.2⟩
theorem rO_k {A : Nat → Nat → Nat} {o : Nat} {R : Nat → Nat} (h : rO A o R) (w : okW R) : ∀ z i, z < A o 0 → i < 3 → A (o + 2) (z * 3 + i) < 4294967296 := fun z i hz hi => (rO_7 h w z i hz hi).1
theorem rO_g {A : Nat → Nat → Nat} {o : Nat} {R : Nat → Nat} (h : rO A o R) (w : okW R) : ∀ z, z < A o 0 → A (o + 4) z ≤ 1 := fun z hz => by
  have n := (okW_n w).1
  rw [h.1] at hz
  rw [(h.2.1 z hz).2.1]; exact (okW_o w (by omega)).2.1
theorem rO_p {A : Nat → Nat → Nat} {o : Nat} {R : Nat → Nat} (h : rO A o R) (w : okW R) : ∀ z, z < A o 0 → A (o + 5) z ≤ 1 := fun z hz => by
  have n := (okW_n w).1
  rw [h.1] at hz
  rw [(h.2.1 z hz).2.2.1]; exact (okW_o w (by omega)).2.2
theorem rO_sz {A : Nat → Nat → Nat} {o : Nat} {R : Nat → Nat} (h : rO A o R) {p : Nat} (hp : p < R 0) : (if p < A o 0 then A (o + 1) p else 0) = R (30 + 9 * p + 0) := by
  rw [if_pos (by rw [h.1]; exact hp), (h.2.1 p hp).1]
theorem rO_kd {A : Nat → Nat → Nat} {o : Nat} {R : Nat → Nat} (h : rO A o R) {p k : Nat} (hp : p < R 0) (hk : k < R (30 + 9 * p + 0)) : (if p < A o 0 ∧ k < A (o + 1) p then A (o + 2) (p * 3 + k) else 4294967295) = R (30 + 9 * p + (3 + 2 * k)) := by
  rw [if_pos ⟨by rw [h.1]; exact hp, by rw [(h.2.1 p hp).1]; exact hk⟩, ((h.2.1 p hp).2.2.2 k hk).1]
theorem rO_nu {A : Nat → Nat → Nat} {o : Nat} {R : Nat → Nat} (h : rO A o R) {p k : Nat} (hp : p < R 0) (hk : k < R (30 + 9 * p + 0)) : (if p < A o 0 ∧ k < A (o + 1) p then A (o + 3) (p * 3 + k) else 4294967295) = R (30 + 9 * p + (3 + 2 * k + 1)) := by
  rw [if_pos ⟨by rw [h.1]; exact hp, by rw [(h.2.1 p hp).1]; exact hk⟩, ((h.2.1 p hp).2.2.2 k hk).2]
theorem rO_pf {A : Nat → Nat → Nat} {o : Nat} {R : Nat → Nat} (h : rO A o R) {p : Nat} (hp : p < R 0) (f : Nat) (m : Mc) : pfC A o p f m = mOp f R p m := by
  unfold pfC mOp
  rw [rO_sz h hp]
  exact mRun_congr (fun x _ hx => (h.2.1 p hp).2.2.2 x (by omega))
theorem rO_gd {A : Nat → Nat → Nat} {o : Nat} {R : Nat → Nat} (h : rO A o R) {p : Nat} (hp : p < R 0) : (p < A o 0 ∧ A (o + 4) p = 1) ↔ R (30 + 9 * p + 1) = 1 := by
  rw [(h.2.1 p hp).2.1, h.1]
  exact ⟨fun z => z.2, fun z => ⟨hp, z⟩⟩
theorem rO_pt {A : Nat → Nat → Nat} {o : Nat} {R : Nat → Nat} (h : rO A o R) {p : Nat} (hp : p < R 0) : (p < A o 0 ∧ A (o + 5) p = 1) ↔ R (30 + 9 * p + 2) = 1 := by
  rw [(h.2.1 p hp).2.2.1, h.1]
  exact ⟨fun z => z.2, fun z => ⟨hp, z⟩⟩
theorem rO_fr {A B : Nat → Nat → Nat} {o : Nat} {R : Nat → Nat} (h : rO A o R) (e : ∀ a, o ≤ a → a ≤ o + 5 → B a = A a) : rO B o R := by
  unfold rO
  rw [e o (by omega) (by omega), e (o + 1) (by omega) (by omega), e (o + 2) (by omega) (by omega), e (o + 3) (by omega) (by omega), e (o + 4) (by omega) (by omega), e (o + 5) (by omega) (by omega)]
  exact h
theorem rO_X {A : Nat → Nat → Nat} {o : Nat} {R S : Nat → Nat} (h : rO A o R) (w : okW R) (e : ∀ i, i = 0 ∨ (30 ≤ i ∧ i < 102) → S i = R i) : rO A o S := by
  have n := (okW_n w).1
  refine ⟨by rw [e 0 (by omega)]; exact h.1, fun p hp => ?_, h.2.2⟩
  rw [e 0 (by omega)] at hp
  have s := okW_o w (p := p) (by omega)
  obtain ⟨a, b, c, f⟩ := h.2.1 p hp
  rw [e (30 + 9 * p + 0) (by omega), e (30 + 9 * p + 1) (by omega), e (30 + 9 * p + 2) (by omega)]
  refine ⟨a, b, c, fun k hk => ?_⟩
  rw [e (30 + 9 * p + (3 + 2 * k)) (by omega), e (30 + 9 * p + (3 + 2 * k + 1)) (by omega)]
  exact f k hk
def hkB (R : Nat → Nat) (p k : Nat) : Bool := anyN (fun i => decide (R (30 + 9 * p + (3 + 2 * i)) = k)) (R (30 + 9 * p + 0))
theorem rO_hk {A : Nat → Nat → Nat} {o : Nat} {R : Nat → Nat} (h : rO A o R) {p : Nat} (hp : p < R 0) (k : Nat) : anyN (fun i => decide (A (o + 2) (p * 3 + i) = k)) (if p < A o 0 then A (o + 1) p else 0) = hkB R p k := by
  rw [rO_sz h hp]
  exact anyN_congr (fun i hi => by rw [((h.2.1 p hp).2.2.2 i hi).1])
def mshB (R : Nat → Nat) (p h : Nat) : Bool := if h = 0 then hkB R p 3 || (hkB R p 4 || hkB R p 5) else if h = 1 then hkB R p 7 || hkB R p 10 else if h = 2 then hkB R p 6 || hkB R p 5 else hkB R p 8
theorem mRun_rel {Q : Mc → Mc → Prop} {g : Nat → Prop} {o : Nat} {ki nu : Nat → Nat} (hq : ∀ c e x, g x → Q c e → ((ki x = 10 ∧ c.2.1 = 0) ↔ (ki x = 10 ∧ e.2.1 = 0))) (hd : ∀ c e x, g x → Q c e → Q (mDo o (ki x) (nu x) c) (mDo o (ki x) (nu x) e)) : ∀ i k c e, (∀ x, k ≤ x → x < k + i → g x) → Q c e → Q (mRun o ki nu i k c) (mRun o ki nu i k e)
  | 0, _, _, _, _, h => h
  | i + 1, k, c, e, hg, h => by
    have g0 := hg k (Nat.le_refl _) (by omega)
    have hi := hq c e k g0 h
    unfold mRun
    by_cases z : ki k = 10 ∧ c.2.1 = 0
    · rw [if_pos z, if_pos (hi.mp z)]; exact h
    · rw [if_neg z, if_neg (fun y => z (hi.mpr y))]
      exact mRun_rel hq hd i (k + 1) _ _ (fun x a b => hg x (by omega) (by omega)) (hd c e k g0 h)
theorem hk_no {R : Nat → Nat} {p k : Nat} (h : hkB R p k = false) : ∀ x, x < R (30 + 9 * p + 0) → R (30 + 9 * p + (3 + 2 * x)) ≠ k := fun x hx e => by
  rw [Bool.eq_false_iff] at h
  exact h (anyN_iff.mpr ⟨x, hx, decide_eq_true e⟩)
theorem mDo_mb {o kind n : Nat} {c : Mc} (h3 : kind ≠ 3) (h4 : kind ≠ 4) (h5 : kind ≠ 5) : (mDo o kind n c).2.1 = c.2.1 ∧ (mDo o kind n c).2.2.1 = c.2.2.1 := by
  unfold mDo
  rw [if_neg h3, if_neg h4, if_neg h5]
  repeat' split
  all_goals exact ⟨rfl, rfl⟩
theorem mRun_mb {o : Nat} {ki nu : Nat → Nat} : ∀ {i k : Nat} {c : Mc}, (∀ x, k ≤ x → x < k + i → ki x ≠ 3 ∧ ki x ≠ 4 ∧ ki x ≠ 5) → (mRun o ki nu i k c).2.1 = c.2.1 ∧ (mRun o ki nu i k c).2.2.1 = c.2.2.1
  | 0, _, _, _ => ⟨rfl, rfl⟩
  | i + 1, k, c, h => by
    have h0 := h k (Nat.le_refl _) (by omega)
    have d := mDo_mb (o := o) (n := nu k) (c := c) h0.1 h0.2.1 h0.2.2
    unfold mRun
    split
    · exact ⟨rfl, rfl⟩
    · have ih := mRun_mb (o := o) (ki := ki) (nu := nu) (i := i) (k := k + 1) (c := mDo o (ki k) (nu k) c) (fun x a b => h x (by omega) (by omega))
      exact ⟨ih.1.trans d.1, ih.2.trans d.2⟩
theorem mOp_mb {o : Nat} {R : Nat → Nat} {p : Nat} {c : Mc} (h3 : hkB R p 3 = false) (h4 : hkB R p 4 = false) (h5 : hkB R p 5 = false) : (mOp o R p c).2.1 = c.2.1 ∧ (mOp o R p c).2.2.1 = c.2.2.1 := by
  unfold mOp
  exact mRun_mb (fun x _ hx => ⟨hk_no h3 x (by omega), hk_no h4 x (by omega), hk_no h5 x (by omega)⟩)
/-- alike but for the mode -/
def q1M (c e : Mc) : Prop := c.1 = e.1 ∧ c.2.2 = e.2.2
theorem q1M_do {o kind n : Nat} {c e : Mc} (h : q1M c e) (h7 : kind ≠ 7) : q1M (mDo o kind n c) (mDo o kind n e) := by
  obtain ⟨c1, c2, c3⟩ := c
  obtain ⟨e1, e2, e3⟩ := e
  obtain ⟨h1, h2⟩ := h
  cases h1
  cases h2
  unfold mDo
  rw [if_neg h7, if_neg h7]
  repeat' split
  all_goals exact ⟨rfl, rfl⟩
/-- alike but for the clock -/
def q3M (c e : Mc) : Prop := c.1 = e.1 ∧ c.2.1 = e.2.1 ∧ c.2.2.1 = e.2.2.1 ∧ c.2.2.2.2 = e.2.2.2.2
theorem q3M_do {o kind n : Nat} {c e : Mc} (h : q3M c e) (h8 : kind ≠ 8) : q3M (mDo o kind n c) (mDo o kind n e) := by
  obtain ⟨c1, c2, c3, c4, c5⟩ := c
  obtain ⟨e1, e2, e3, e4, e5⟩ := e
  obtain ⟨h1, h2, h3, h4⟩ := h
  cases h1
  cases h2
  cases h3
  cases h4
  unfold mDo
  rw [if_neg h8, if_neg h8]
  repeat' split
  all_goals exact ⟨rfl, rfl, rfl, rfl⟩
/-- the first one from its base b, the second one turned by it -/
def q2M (b : Nat) (c e : Mc) : Prop := c.1 = e.1 ∧ c.2.1 = e.2.1 ∧ c.2.2.1 = 0 ∧ e.2.2.1 = b ∧ c.2.2.2.1 = e.2.2.2.1 ∧ c.2.2.2.2.1 = e.2.2.2.2.1 ∧ ∀ k, k < 8 → e.2.2.2.2.2 ((k + b) % 8) = c.2.2.2.2.2 k
theorem q2M_do {b kind n : Nat} {c e : Mc} (h : q2M b c e) (h5 : kind ≠ 5) (h6 : kind ≠ 6) : q2M b (mDo 0 kind n c) (mDo 0 kind n e) := by
  obtain ⟨c1, c2, c3, c4, c5, c6⟩ := c
  obtain ⟨e1, e2, e3, e4, e5, e6⟩ := e
  obtain ⟨h1, h2, h3, h4, h7, h8, h9⟩ := h
  simp only at h1 h2 h3 h4 h7 h8 h9
  subst h1 h2 h3 h4 h7 h8
  refine ten_cases (P := fun kind => kind ≠ 5 → kind ≠ 6 → q2M e3 (mDo 0 kind n (c1, c2, 0, c4, c5, c6)) (mDo 0 kind n (c1, c2, e3, c4, c5, e6))) ?_ ?_ ?_ ?_ ?_ ?_ ?_ ?_ ?_ ?_ ?_ kind h5 h6
  · exact fun _ _ => ⟨rfl, rfl, rfl, rfl, rfl, rfl, h9⟩
  · intro _ _
    refine ⟨?_, rfl, rfl, rfl, rfl, rfl, h9⟩
    show c6 ((n + 0 + 0) % 8) = e6 ((n + e3 + 0) % 8)
    rw [← h9 _ (by omega)]
    congr 1
    omega
  · intro _ _
    refine ⟨rfl, rfl, rfl, rfl, rfl, rfl, fun k hk => ?_⟩
    show (if (k + e3) % 8 = (n + e3 + 0) % 8 then c1 else e6 ((k + e3) % 8)) = (if k = (n + 0 + 0) % 8 then c1 else c6 k)
    rw [h9 k hk]
    by_cases z : k = (n + 0 + 0) % 8
    · rw [if_pos z, if_pos (by omega)]
    · rw [if_neg z, if_neg (by omega)]
  · exact fun _ _ => ⟨rfl, rfl, rfl, rfl, rfl, rfl, h9⟩
  · exact fun _ _ => ⟨rfl, rfl, rfl, rfl, rfl, rfl, h9⟩
  · exact fun z _ => absurd rfl z
  · exact fun _ z => absurd rfl z
  · exact fun _ _ => ⟨rfl, rfl, rfl, rfl, rfl, rfl, h9⟩
  · exact fun _ _ => ⟨rfl, rfl, rfl, rfl, rfl, rfl, h9⟩
  · exact fun _ _ => ⟨rfl, rfl, rfl, rfl, rfl, rfl, h9⟩
  · intro k hk _ _
    rw [mDo_hi _ hk, mDo_hi _ hk]
    exact ⟨rfl, rfl, rfl, rfl, rfl, rfl, h9⟩
theorem unl_no {b : Nat} {c e : Mc} (h1 : c.1 = e.1) (h2 : c.2.2.2.2.1 = e.2.2.2.2.1) (h3 : ∀ k, k < 8 → e.2.2.2.2.2 ((k + b) % 8) = c.2.2.2.2.2 k) : unl b c e = false := by
  unfold unl
  rw [decide_eq_true h1, decide_eq_true h2, allN_iff.mpr (fun k hk => decide_eq_true (h3 k hk))]
  rfl
theorem msh_f {R : Nat → Nat} {p h : Nat} (z : mshB R p h = false) (s : Nat) : trB R p h s = false := by
  unfold mshB at z
  unfold trB
  by_cases h0 : h = 0
  · rw [if_pos h0] at z ⊢
    simp only [Bool.or_eq_false_iff] at z
    unfold tr0
    have e := mOp_mb (o := 0) (c := stM s (s / 4 % 2) (2 * (s / 8 % 4)) 0 0) z.1 z.2.1 z.2.2
    rw [e.1, e.2, decide_eq_true (show (stM s (s / 4 % 2) (2 * (s / 8 % 4)) 0 0).2.1 = s / 4 % 2 from rfl), decide_eq_true (show (stM s (s / 4 % 2) (2 * (s / 8 % 4)) 0 0).2.2.1 = 2 * (s / 8 % 4) from rfl)]
    simp
  rw [if_neg h0] at z ⊢
  by_cases h1 : h = 1
  · rw [if_pos h1] at z ⊢
    simp only [Bool.or_eq_false_iff] at z
    have q : q1M (mOp 0 R p (stM s 1 (2 * (s / 8 % 4)) 0 0)) (mOp 0 R p (stM s (s / 4 % 2) (2 * (s / 8 % 4)) 0 0)) := by
      unfold mOp
      refine mRun_rel (g := fun x => x < R (30 + 9 * p + 0)) (fun c e x hx _ => ⟨fun y => absurd y.1 (hk_no z.2 x hx), fun y => absurd y.1 (hk_no z.2 x hx)⟩) (fun c e x hx y => q1M_do y (hk_no z.1 x hx)) _ _ _ _ (fun x _ hx => by omega) ⟨rfl, rfl⟩
    have u : unl 0 (mOp 0 R p (stM s 1 (2 * (s / 8 % 4)) 0 0)) (mOp 0 R p (stM s (s / 4 % 2) (2 * (s / 8 % 4)) 0 0)) = false := unl_no q.1 (by rw [q.2]) (fun k hk => by rw [q.2, show (k + 0) % 8 = k by omega])
    unfold tr1
    rw [u]
    simp
  rw [if_neg h1] at z ⊢
  by_cases h2 : h = 2
  · rw [if_pos h2] at z ⊢
    simp only [Bool.or_eq_false_iff] at z
    have q : q2M (2 * (s / 8 % 4)) (mOp 0 R p (stM s (s / 4 % 2) 0 0 (2 * (s / 8 % 4)))) (mOp 0 R p (stM s (s / 4 % 2) (2 * (s / 8 % 4)) 0 0)) := by
      unfold mOp
      refine mRun_rel (g := fun x => x < R (30 + 9 * p + 0)) (fun c e x hx y => by rw [y.2.1]) (fun c e x hx y => q2M_do y (hk_no z.2 x hx) (hk_no z.1 x hx)) _ _ _ _ (fun x _ hx => by omega) ⟨rfl, rfl, rfl, rfl, rfl, rfl, fun k hk => ?_⟩
      show stP s 0 ((k + 2 * (s / 8 % 4)) % 8) = stP s (2 * (s / 8 % 4)) k
      unfold stP
      rw [show ((k + 2 * (s / 8 % 4)) % 8 + 0) % 8 = (k + 2 * (s / 8 % 4)) % 8 by omega]
    unfold tr2
    rw [unl_no q.1 q.2.2.2.2.2.1 q.2.2.2.2.2.2]
    simp
  rw [if_neg h2] at z ⊢
  have q : ∀ c, q3M (mOp 0 R p (stM s (s / 4 % 2) (2 * (s / 8 % 4)) c 0)) (mOp 0 R p (stM s (s / 4 % 2) (2 * (s / 8 % 4)) 0 0)) := fun c => by
    unfold mOp
    refine mRun_rel (g := fun x => x < R (30 + 9 * p + 0)) (fun c e x hx y => by rw [y.2.1]) (fun c e x hx y => q3M_do y (hk_no z x hx)) _ _ _ _ (fun x _ hx => by omega) ⟨rfl, rfl, rfl, rfl⟩
  have u : ∀ c, tr3c R p s c = false := fun c => by
    have q := q c
    unfold tr3c
    exact unl_no q.1 (by rw [q.2.2.2]) (fun k hk => by rw [q.2.2.2, show (k + 0) % 8 = k by omega])
  unfold tr3
  rw [allN_iff.mpr (fun k _ => by rw [u]; rfl)]
  simp
