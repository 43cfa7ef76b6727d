/-! ticks -/
def eqX (R S : Nat → Nat) : Prop := ∀ i, i < 8 ∨ (12 ≤ i ∧ i < 102) ∨ 368 ≤ i → S i = R i
theorem eqX_rf (R : Nat → Nat) : eqX R R := fun _ _ => rfl
theorem eqX_tr {R S T : Nat → Nat} (h : eqX R S) (h2 : eqX S T) : eqX R T := fun i hi => (h2 i hi).trans (h i hi)
theorem eqG_X {R S : Nat → Nat} (h : eqG R S) : eqX R S := fun i hi => h i (by omega)
theorem usN_X {R S : Nat → Nat} (h : eqX R S) (p : Nat) (h3 : R 3 ≤ 10) : usN S p = usN R p := by
  unfold usN
  rw [h 3 (by omega)]
  exact cntN_congr (fun k hk => by rw [h (12 + k) (by omega)])
theorem fct_X {R S : Nat → Nat} (h : eqX R S) {p : Nat} (hp : p < 8) (h3 : R 3 ≤ 10) (t c n : Nat) : fct S t p c n = fct R t p c n := by
  unfold fct
  rw [usN_X h p h3, h (30 + 9 * p + 0) (by omega), h (30 + 9 * p + 1) (by omega), h (30 + 9 * p + 2) (by omega)]
theorem hlS_X {R S : Nat → Nat} (h : eqX R S) {p : Nat} (hp : p < 8) (h3 : R 3 ≤ 10) (t n : Nat) : hlS S t p n = hlS R t p n := by
  unfold hlS hld
  have e1 : (fun i => fct S t p (S (417 + 2 * i)) (S (417 + 2 * i + 1))) = (fun i => fct R t p (R (417 + 2 * i)) (R (417 + 2 * i + 1))) := by
    funext i
    rw [h (417 + 2 * i) (by omega), h (417 + 2 * i + 1) (by omega), fct_X h hp h3]
  have e2 : (fun i => S (417 + 2 * i)) = (fun i => R (417 + 2 * i)) := by
    funext i
    rw [h (417 + 2 * i) (by omega)]
  rw [e1, e2, h (369 + 4 * n + 3) (by omega), h (369 + 4 * n + 2) (by omega)]
theorem smN_X {R S : Nat → Nat} (h : eqX R S) {p : Nat} (hp : p < 8) (h3 : R 3 ≤ 10) (t w : Nat) : ∀ n, smN S t p w n = smN R t p w n
  | 0 => rfl
  | n + 1 => by
    unfold smN
    rw [smN_X h hp h3 t w n, h (369 + 4 * n) (by omega), h (369 + 4 * n + 1) (by omega), hlS_X h hp h3]
theorem lsum_X {R S : Nat → Nat} (h : eqX R S) {p : Nat} (hp : p < 8) (h3 : R 3 ≤ 10) (t w : Nat) : lsum S t p w = lsum R t p w := by
  unfold lsum
  rw [h 2 (by omega), h 368 (by omega), smN_X h hp h3]
theorem mOp_X {R S : Nat → Nat} (h : eqX R S) {o p : Nat} (hp : p < 8) (hl : R (30 + 9 * p + 0) ≤ 3) (c : Mc) : mOp o S p c = mOp o R p c := mOp_congr ⟨h _ (by omega), h _ (by omega), fun k hk => ⟨h _ (by rw [h _ (by omega)] at hk; omega), h _ (by rw [h _ (by omega)] at hk; omega)⟩⟩
theorem okLw_X {R S : Nat → Nat} (h : okLw R) (e : eqX R S) : okLw S := by
  intro h2
  rw [e 2 (by omega)] at h2
  obtain ⟨h3, h4⟩ := h h2
  rw [e 368 (by omega)]
  refine ⟨h3, fun n hn => ?_⟩
  obtain ⟨a1, a2, a3, a4, a5, t, a6, a7⟩ := h4 n hn
  have e2 : (fun i => S (417 + 2 * i)) = (fun i => R (417 + 2 * i)) := by
    funext i
    rw [e (417 + 2 * i) (by omega)]
  unfold okLn
  rw [e (369 + 4 * n) (by omega), e (369 + 4 * n + 1) (by omega), e (369 + 4 * n + 2) (by omega), e (369 + 4 * n + 3) (by omega), e2]
  exact ⟨a1, a2, a3, a4, fun i h1 h2 => by rw [e (417 + 2 * i) (by omega), e (417 + 2 * i + 1) (by omega)]; exact a5 i h1 h2, t, a6, a7⟩
def alN (R : Nat → Nat) (n : Nat) : Bool := allN (fun k => decide (k = 4) || decide (R (102 + 13 * 0 + k) = R (102 + 13 * 1 + k))) n
def alk (R : Nat → Nat) : Bool := alN R 13
/-- a row of the log more -/
def toR (R : Nat → Nat) (p w pc : Nat) : Nat → Nat := fun i =>
  if i = 10 then min 60 (R 10 + 1) else if i = 131 then pc else if i = 130 then w else if i = 129 then p else if i = 128 then R 8 else if 132 ≤ i ∧ i < 368 then R (i - 4) else R i
def sdN (s : Nat) : Nat := (1103515245 * s % 4294967296 + 12345) % 4294967296
def sdR (R : Nat → Nat) : Nat → Nat := fun i => if i = 11 then sdN (R 11) else R i
def drw (s n : Nat) : Nat := s / 65536 % 32768 % n
def seR (R : Nat → Nat) (k v : Nat) : Nat → Nat := fun i => if i = k then v else R i
/-- the op that a tick tells of -/
def tkP (R : Nat → Nat) (al : Bool) : Nat := if R 3 ≤ R (102 + 13 * 1 + 0) ∨ al = true then 4294967295 else hoP R
def tk1 (R T : Nat → Nat) (al : Bool) : Nat → Nat := if al = true then ctR (ctR (toR R 4294967295 4 (R (102 + 13 * 1 + 0))) 0) 1 else if hoW (baR R) = 4294967295 then hoR (baR R) T else toR (hoR (baR R) T) (tkP R al) (hoW (baR R)) (R (102 + 13 * 1 + 0))
def tk2 (R T : Nat → Nat) (al : Bool) : Nat → Nat := if alk R = true ∧ alk (tk1 R T al) = false then toR (tk1 R T al) (tkP R al) 3 (R (102 + 13 * 1 + 0)) else tk1 R T al
def tkB (R : Nat → Nat) (al : Bool) : Bool := !al && decide (hoW (baR R) ≤ 1)
def tk3 (R T : Nat → Nat) (al : Bool) : Nat → Nat := if tkB R al = true then seR (tk2 R T al) 9 (min 9999 (tk2 R T al 9 + (1 + lsum (tk2 R T al) (T (tkP R al)) (tkP R al) 2))) else tk2 R T al
def tkR (R T : Nat → Nat) (al : Bool) : Nat → Nat := seR (tk3 R T al) 8 (min 9999 (tk3 R T al 8 + 1))
/-- whether a tick brings an alarm, and the row with what was drawn -/
def drR (R : Nat → Nat) (calm : Bool) : Nat → Nat := bif calm then R else sdR R
def drA (R : Nat → Nat) (calm : Bool) : Bool := !calm && decide (drw (sdN (R 11)) 100 < R 7)
def gsR (T : Nat → Nat) (calm : Bool) : Nat → (Nat → Nat) → (Nat → Nat)
  | 0, R => R
  | n + 1, R => gsR T calm n (tkR (drR R calm) T (drA R calm))
def gsN (T : Nat → Nat) (calm : Bool) : Nat → (Nat → Nat) → Nat
  | 0, _ => 0
  | n + 1, R => (tkB (drR R calm) (drA R calm)).toNat + gsN T calm n (tkR (drR R calm) T (drA R calm))
theorem eqX_to (R : Nat → Nat) (p w pc : Nat) : eqX R (toR R p w pc) := fun i hi => by unfold toR; rw [if_neg (by omega), if_neg (by omega), if_neg (by omega), if_neg (by omega), if_neg (by omega), if_neg (by omega)]
theorem eqX_sd (R : Nat → Nat) : eqX R (sdR R) := fun i hi => by unfold sdR; rw [if_neg (by omega)]
theorem eqX_se (R : Nat → Nat) {k : Nat} (v : Nat) (h : k = 8 ∨ k = 9) : eqX R (seR R k v) := fun i hi => by unfold seR; rw [if_neg (by omega)]
/-- rows that differ in the log and what is counted alone -/
def eqC (R S : Nat → Nat) : Prop := ∀ i, i < 8 ∨ (12 ≤ i ∧ i < 128) ∨ 368 ≤ i → S i = R i
theorem okW_C {R S : Nat → Nat} (h : okW R) (e : eqC R S) (h8 : S 8 ≤ 9999) (h9 : S 9 ≤ 9999) (h10 : S 10 ≤ 60) (h11 : S 11 < 4294967296) (hl : ∀ k, k < 240 → S (128 + k) < 4294967296) : okW S := by
  obtain ⟨h1, h2, h3, h4, h5, h6, h7, -⟩ := h
  refine ⟨?_, fun k hk => ?_, fun k hk => ?_, fun k hk => ?_, fun p hp => ?_, fun p hp => ?_, fun g hg => ?_, hl⟩
  · rw [e 0 (by omega), e 1 (by omega), e 2 (by omega), e 3 (by omega), e 4 (by omega), e 5 (by omega), e 6 (by omega), e 7 (by omega)]
    exact ⟨h1.1, h1.2.1, h1.2.2.1, h1.2.2.2.1, h1.2.2.2.2.1, h1.2.2.2.2.2.1, h1.2.2.2.2.2.2.1, h1.2.2.2.2.2.2.2.1, h1.2.2.2.2.2.2.2.2.1, h8, h9, h10, h11⟩
  · rw [e _ (by omega)]; exact h2 k hk
  · rw [e 3 (by omega)] at hk
    have := h1.2.2.2.1
    rw [e _ (by omega), e 0 (by omega)]; exact h3 k hk
  · rw [e _ (by omega)]; exact h4 k hk
  · obtain ⟨a1, a2, a3, a4⟩ := h5 p hp
    refine ⟨?_, ?_, ?_, fun k hk => ?_⟩
    · show S (30 + 9 * p + 0) ≤ 3
      rw [e _ (by omega)]; exact a1
    · show S (30 + 9 * p + 1) ≤ 1
      rw [e _ (by omega)]; exact a2
    · show S (30 + 9 * p + 2) ≤ 1
      rw [e _ (by omega)]; exact a3
    · show S (30 + 9 * p + (3 + 2 * k)) ≤ 10 ∧ S (30 + 9 * p + (3 + 2 * k + 1)) ≤ 7
      rw [e _ (by omega), e _ (by omega)]; exact a4 k hk
  · rw [e 0 (by omega)] at hp
    have : R 0 ≤ 8 := h1.1
    rw [e _ (by omega)]; exact h6 p hp
  · obtain ⟨a1, a2, a3, a4, a5, a6⟩ := h7 g hg
    refine ⟨?_, ?_, ?_, ?_, ?_, fun k hk => ?_⟩
    · show S (102 + 13 * g + 0) ≤ 12
      rw [e _ (by omega)]; exact a1
    · show S (102 + 13 * g + 1) ≤ 3
      rw [e _ (by omega)]; exact a2
    · show S (102 + 13 * g + 2) ≤ 1
      rw [e _ (by omega)]; exact a3
    · show S (102 + 13 * g + 3) ≤ 6 ∧ S (102 + 13 * g + 3) % 2 = 0
      rw [e _ (by omega)]; exact a4
    · show S (102 + 13 * g + 4) ≤ 7
      rw [e _ (by omega)]; exact a5
    · show S (102 + 13 * g + (5 + k)) ≤ 3
      rw [e _ (by omega)]; exact a6 k hk
theorem okW_to {R : Nat → Nat} (h : okW R) {p w pc : Nat} (hp : p < 4294967296) (hw : w < 4294967296) (hc : pc < 4294967296) : okW (toR R p w pc) := by
  have h1 := okW_n h
  have z : ∀ i, i ≠ 10 → i < 128 → toR R p w pc i = R i := fun i a b => by unfold toR; rw [if_neg (by omega), if_neg (by omega), if_neg (by omega), if_neg (by omega), if_neg (by omega), if_neg (by omega)]
  refine okW_C h (fun i hi => ?_) ?_ ?_ ?_ ?_ (fun k hk => ?_)
  · unfold toR; rw [if_neg (by omega), if_neg (by omega), if_neg (by omega), if_neg (by omega), if_neg (by omega), if_neg (by omega)]
  · rw [z 8 (by omega) (by omega)]; omega
  · rw [z 9 (by omega) (by omega)]; omega
  · unfold toR; rw [if_pos rfl]; omega
  · rw [z 11 (by omega) (by omega)]; omega
  · unfold toR
    rw [if_neg (by omega)]
    by_cases a1 : 128 + k = 131
    · rw [if_pos a1]; exact hc
    rw [if_neg a1]
    by_cases a2 : 128 + k = 130
    · rw [if_pos a2]; exact hw
    rw [if_neg a2]
    by_cases a3 : 128 + k = 129
    · rw [if_pos a3]; exact hp
    rw [if_neg a3]
    by_cases a4 : 128 + k = 128
    · rw [if_pos a4]; omega
    rw [if_neg a4, if_pos (by omega)]
    have := okW_l h (k := k - 4) (by omega)
    rw [show 128 + k - 4 = 128 + (k - 4) by omega]; exact this
theorem okW_se {R : Nat → Nat} (h : okW R) {k v : Nat} (hk : k = 8 ∨ k = 9) (hv : v ≤ 9999) : okW (seR R k v) := by
  have h1 := okW_n h
  refine okW_C h (fun i hi => by unfold seR; rw [if_neg (by omega)]) ?_ ?_ ?_ ?_ (fun i hi => ?_)
  · unfold seR; split <;> omega
  · unfold seR; split <;> omega
  · unfold seR; rw [if_neg (by omega)]; omega
  · unfold seR; rw [if_neg (by omega)]; omega
  · unfold seR; rw [if_neg (by omega)]; exact okW_l h hi
theorem okW_sd {R : Nat → Nat} (h : okW R) : okW (sdR R) := by
  have h1 := okW_n h
  refine okW_C h (fun i hi => by unfold sdR; rw [if_neg (by omega)]) ?_ ?_ ?_ ?_ (fun i hi => ?_)
  · unfold sdR; rw [if_neg (by omega)]; omega
  · unfold sdR; rw [if_neg (by omega)]; omega
  · unfold sdR; rw [if_neg (by omega)]; omega
  · unfold sdR; rw [if_pos rfl]; unfold sdN; omega
  · unfold sdR; rw [if_neg (by omega)]; exact okW_l h hi
theorem tkP_lt {R : Nat → Nat} (h : okW R) (al : Bool) : tkP R al < 4294967296 := by
  have h1 := okW_n h
  unfold tkP
  split
  · decide
  · have := okW_p h (k := R (102 + 13 * 1 + 0)) (by omega)
    unfold hoP
    omega
theorem hoW_lt (R : Nat → Nat) : hoW R < 4294967296 := by
  unfold hoW
  repeat' split
  all_goals omega
theorem ok_tk1 {R : Nat → Nat} (h : okW R) (T : Nat → Nat) (al : Bool) : okW (tk1 R T al) ∧ eqX R (tk1 R T al) := by
  have h1 := okW_g h (g := 1) (by omega)
  unfold tk1
  split
  · exact ⟨okW_ct (okW_ct (okW_to h (by omega) (by omega) (by omega)) (by omega)) (by omega), eqX_tr (eqX_to _ _ _ _) (eqX_tr (eqG_X (eqG_ct _ (by omega))) (eqG_X (eqG_ct _ (by omega))))⟩
  split
  · exact ⟨okW_ho (okW_ba h) T, eqX_tr (eqG_X (eqG_ba R)) (eqG_X (eqG_ho _ _))⟩
  · exact ⟨okW_to (okW_ho (okW_ba h) T) (tkP_lt h al) (hoW_lt _) (by omega), eqX_tr (eqG_X (eqG_ba R)) (eqX_tr (eqG_X (eqG_ho _ _)) (eqX_to _ _ _ _))⟩
theorem ok_tk2 {R : Nat → Nat} (h : okW R) (T : Nat → Nat) (al : Bool) : okW (tk2 R T al) ∧ eqX R (tk2 R T al) := by
  have h1 := okW_g h (g := 1) (by omega)
  obtain ⟨a, b⟩ := ok_tk1 h T al
  unfold tk2
  split
  · exact ⟨okW_to a (tkP_lt h al) (by omega) (by omega), eqX_tr b (eqX_to _ _ _ _)⟩
  · exact ⟨a, b⟩
theorem ok_tk3 {R : Nat → Nat} (h : okW R) (T : Nat → Nat) (al : Bool) : okW (tk3 R T al) ∧ eqX R (tk3 R T al) := by
  obtain ⟨a, b⟩ := ok_tk2 h T al
  unfold tk3
  split
  · exact ⟨okW_se a (Or.inr rfl) (by omega), eqX_tr b (eqX_se _ _ (Or.inr rfl))⟩
  · exact ⟨a, b⟩
theorem ok_tk {R : Nat → Nat} (h : okW R) (T : Nat → Nat) (al : Bool) : okW (tkR R T al) ∧ eqX R (tkR R T al) := by
  obtain ⟨a, b⟩ := ok_tk3 h T al
  exact ⟨okW_se a (Or.inl rfl) (by omega), eqX_tr b (eqX_se _ _ (Or.inl rfl))⟩
theorem ok_dr {R : Nat → Nat} (h : okW R) (calm : Bool) : okW (drR R calm) ∧ eqX R (drR R calm) := by
  cases calm
  · exact ⟨okW_sd h, eqX_sd R⟩
  · exact ⟨h, eqX_rf R⟩
